theorem dX11_request_0 : decode cX11_request 0 = .ok (.aload_n 0, 1) := by decide +kernel
theorem dX11_request_1 : decode cX11_request 1 = .ok (.getfield 28, 3) := by decide +kernel
theorem dX11_request_4 : decode cX11_request 4 = .ok (.iconst 0, 1) := by decide +kernel
theorem dX11_request_5 : decode cX11_request 5 = .ok (.ldc_w 281, 3) := by decide +kernel
theorem dX11_request_8 : decode cX11_request 8 = .ok (.invokevirtual 260, 3) := by decide +kernel
theorem dX11_request_11 : decode cX11_request 11 = .ok (.istore_n 2, 1) := by decide +kernel
theorem dX11_request_12 : decode cX11_request 12 = .ok (.aload_n 0, 1) := by decide +kernel
theorem dX11_request_13 : decode cX11_request 13 = .ok (.getfield 28, 3) := by decide +kernel
theorem dX11_request_16 : decode cX11_request 16 = .ok (.iload_n 2, 1) := by decide +kernel
theorem dX11_request_17 : decode cX11_request 17 = .ok (.ldc_w 287, 3) := by decide +kernel
theorem dX11_request_20 : decode cX11_request 20 = .ok (.invokevirtual 277, 3) := by decide +kernel
theorem dX11_request_23 : decode cX11_request 23 = .ok (.istore_n 3, 1) := by decide +kernel
theorem dX11_request_24 : decode cX11_request 24 = .ok (.aload_n 0, 1) := by decide +kernel
theorem dX11_request_25 : decode cX11_request 25 = .ok (.getfield 77, 3) := by decide +kernel
theorem dX11_request_28 : decode cX11_request 28 = .ok (.ifCond .ne 37, 3) := by decide +kernel
theorem dX11_request_31 : decode cX11_request 31 = .ok (.iload_n 3, 1) := by decide +kernel
theorem dX11_request_32 : decode cX11_request 32 = .ok (.ifCond .eq 33, 3) := by decide +kernel
theorem dX11_request_35 : decode cX11_request 35 = .ok (.aload_n 0, 1) := by decide +kernel
theorem dX11_request_36 : decode cX11_request 36 = .ok (.iconst 1, 1) := by decide +kernel
theorem dX11_request_37 : decode cX11_request 37 = .ok (.putfield 77, 3) := by decide +kernel
theorem dX11_request_40 : decode cX11_request 40 = .ok (.aload_n 0, 1) := by decide +kernel
theorem dX11_request_41 : decode cX11_request 41 = .ok (.aload_n 1, 1) := by decide +kernel
theorem dX11_request_42 : decode cX11_request 42 = .ok (.ldc_w 289, 3) := by decide +kernel
theorem dX11_request_45 : decode cX11_request 45 = .ok (.invokevirtual 291, 3) := by decide +kernel
theorem dX11_request_48 : decode cX11_request 48 = .ok (.aload_n 0, 1) := by decide +kernel
theorem dX11_request_49 : decode cX11_request 49 = .ok (.getfield 35, 3) := by decide +kernel
theorem dX11_request_52 : decode cX11_request 52 = .ok (.ldc_w 295, 3) := by decide +kernel
theorem dX11_request_55 : decode cX11_request 55 = .ok (.invokevirtual 297, 3) := by decide +kernel
theorem dX11_request_58 : decode cX11_request 58 = .ok (.aload_n 0, 1) := by decide +kernel
theorem dX11_request_59 : decode cX11_request 59 = .ok (.invokevirtual 300, 3) := by decide +kernel
theorem dX11_request_62 : decode cX11_request 62 = .ok (.goto 150, 3) := by decide +kernel
theorem dX11_request_65 : decode cX11_request 65 = .ok (.aload_n 0, 1) := by decide +kernel
theorem dX11_request_66 : decode cX11_request 66 = .ok (.getfield 77, 3) := by decide +kernel
theorem dX11_request_69 : decode cX11_request 69 = .ok (.ifCond .ne 14, 3) := by decide +kernel
theorem dX11_request_72 : decode cX11_request 72 = .ok (.aload_n 0, 1) := by decide +kernel
theorem dX11_request_73 : decode cX11_request 73 = .ok (.aload_n 1, 1) := by decide +kernel
theorem dX11_request_74 : decode cX11_request 74 = .ok (.sipush (-32002), 3) := by decide +kernel
theorem dX11_request_77 : decode cX11_request 77 = .ok (.invokevirtual 267, 3) := by decide +kernel
theorem dX11_request_80 : decode cX11_request 80 = .ok (.goto 132, 3) := by decide +kernel
theorem dX11_request_83 : decode cX11_request 83 = .ok (.aload_n 0, 1) := by decide +kernel
theorem dX11_request_84 : decode cX11_request 84 = .ok (.getfield 77, 3) := by decide +kernel
theorem dX11_request_87 : decode cX11_request 87 = .ok (.iconst 2, 1) := by decide +kernel
theorem dX11_request_88 : decode cX11_request 88 = .ok (.if_icmp .eq 7, 3) := by decide +kernel
theorem dX11_request_91 : decode cX11_request 91 = .ok (.iload_n 3, 1) := by decide +kernel
theorem dX11_request_92 : decode cX11_request 92 = .ok (.ifCond .eq 14, 3) := by decide +kernel
theorem dX11_request_95 : decode cX11_request 95 = .ok (.aload_n 0, 1) := by decide +kernel
theorem dX11_request_96 : decode cX11_request 96 = .ok (.aload_n 1, 1) := by decide +kernel
theorem dX11_request_97 : decode cX11_request 97 = .ok (.sipush (-32600), 3) := by decide +kernel
theorem dX11_request_100 : decode cX11_request 100 = .ok (.invokevirtual 267, 3) := by decide +kernel
theorem dX11_request_103 : decode cX11_request 103 = .ok (.goto 109, 3) := by decide +kernel
theorem dX11_request_106 : decode cX11_request 106 = .ok (.aload_n 0, 1) := by decide +kernel
theorem dX11_request_107 : decode cX11_request 107 = .ok (.getfield 28, 3) := by decide +kernel
theorem dX11_request_110 : decode cX11_request 110 = .ok (.iload_n 2, 1) := by decide +kernel
theorem dX11_request_111 : decode cX11_request 111 = .ok (.ldc_w 303, 3) := by decide +kernel
theorem dX11_request_114 : decode cX11_request 114 = .ok (.invokevirtual 277, 3) := by decide +kernel
theorem dX11_request_117 : decode cX11_request 117 = .ok (.ifCond .eq 33, 3) := by decide +kernel
theorem dX11_request_120 : decode cX11_request 120 = .ok (.aload_n 0, 1) := by decide +kernel
theorem dX11_request_121 : decode cX11_request 121 = .ok (.iconst 2, 1) := by decide +kernel
theorem dX11_request_122 : decode cX11_request 122 = .ok (.putfield 77, 3) := by decide +kernel
theorem dX11_request_125 : decode cX11_request 125 = .ok (.aload_n 0, 1) := by decide +kernel
theorem dX11_request_126 : decode cX11_request 126 = .ok (.aload_n 1, 1) := by decide +kernel
theorem dX11_request_127 : decode cX11_request 127 = .ok (.ldc_w 289, 3) := by decide +kernel
theorem dX11_request_130 : decode cX11_request 130 = .ok (.invokevirtual 291, 3) := by decide +kernel
theorem dX11_request_133 : decode cX11_request 133 = .ok (.aload_n 0, 1) := by decide +kernel
theorem dX11_request_134 : decode cX11_request 134 = .ok (.getfield 35, 3) := by decide +kernel
theorem dX11_request_137 : decode cX11_request 137 = .ok (.ldc_w 305, 3) := by decide +kernel
theorem dX11_request_140 : decode cX11_request 140 = .ok (.invokevirtual 297, 3) := by decide +kernel
theorem dX11_request_143 : decode cX11_request 143 = .ok (.aload_n 0, 1) := by decide +kernel
theorem dX11_request_144 : decode cX11_request 144 = .ok (.invokevirtual 300, 3) := by decide +kernel
theorem dX11_request_147 : decode cX11_request 147 = .ok (.goto 65, 3) := by decide +kernel
theorem dX11_request_150 : decode cX11_request 150 = .ok (.aload_n 0, 1) := by decide +kernel
theorem dX11_request_151 : decode cX11_request 151 = .ok (.getfield 28, 3) := by decide +kernel
theorem dX11_request_154 : decode cX11_request 154 = .ok (.iload_n 2, 1) := by decide +kernel
theorem dX11_request_155 : decode cX11_request 155 = .ok (.ldc_w 307, 3) := by decide +kernel
theorem dX11_request_158 : decode cX11_request 158 = .ok (.invokevirtual 277, 3) := by decide +kernel
theorem dX11_request_161 : decode cX11_request 161 = .ok (.ifCond .eq 16, 3) := by decide +kernel
theorem dX11_request_164 : decode cX11_request 164 = .ok (.aload_n 0, 1) := by decide +kernel
theorem dX11_request_165 : decode cX11_request 165 = .ok (.aload_n 1, 1) := by decide +kernel
theorem dX11_request_166 : decode cX11_request 166 = .ok (.aload_n 0, 1) := by decide +kernel
theorem dX11_request_167 : decode cX11_request 167 = .ok (.aload_n 1, 1) := by decide +kernel
theorem dX11_request_168 : decode cX11_request 168 = .ok (.invokevirtual 309, 3) := by decide +kernel
theorem dX11_request_171 : decode cX11_request 171 = .ok (.invokevirtual 313, 3) := by decide +kernel
theorem dX11_request_174 : decode cX11_request 174 = .ok (.goto 38, 3) := by decide +kernel
theorem dX11_request_177 : decode cX11_request 177 = .ok (.aload_n 0, 1) := by decide +kernel
theorem dX11_request_178 : decode cX11_request 178 = .ok (.getfield 28, 3) := by decide +kernel
theorem dX11_request_181 : decode cX11_request 181 = .ok (.iload_n 2, 1) := by decide +kernel
theorem dX11_request_182 : decode cX11_request 182 = .ok (.ldc_w 317, 3) := by decide +kernel
theorem dX11_request_185 : decode cX11_request 185 = .ok (.invokevirtual 277, 3) := by decide +kernel
theorem dX11_request_188 : decode cX11_request 188 = .ok (.ifCond .eq 16, 3) := by decide +kernel
theorem dX11_request_191 : decode cX11_request 191 = .ok (.aload_n 0, 1) := by decide +kernel
theorem dX11_request_192 : decode cX11_request 192 = .ok (.aload_n 1, 1) := by decide +kernel
theorem dX11_request_193 : decode cX11_request 193 = .ok (.aload_n 0, 1) := by decide +kernel
theorem dX11_request_194 : decode cX11_request 194 = .ok (.aload_n 1, 1) := by decide +kernel
theorem dX11_request_195 : decode cX11_request 195 = .ok (.invokevirtual 319, 3) := by decide +kernel
theorem dX11_request_198 : decode cX11_request 198 = .ok (.invokevirtual 313, 3) := by decide +kernel
theorem dX11_request_201 : decode cX11_request 201 = .ok (.goto 11, 3) := by decide +kernel
theorem dX11_request_204 : decode cX11_request 204 = .ok (.aload_n 0, 1) := by decide +kernel
theorem dX11_request_205 : decode cX11_request 205 = .ok (.aload_n 1, 1) := by decide +kernel
theorem dX11_request_206 : decode cX11_request 206 = .ok (.sipush (-32601), 3) := by decide +kernel
theorem dX11_request_209 : decode cX11_request 209 = .ok (.invokevirtual 267, 3) := by decide +kernel
theorem dX11_request_212 : decode cX11_request 212 = .ok (.return_, 1) := by decide +kernel
theorem dX11_cancelRequest_0 : decode cX11_cancelRequest 0 = .ok (.new 115, 3) := by decide +kernel
theorem dX11_cancelRequest_3 : decode cX11_cancelRequest 3 = .ok (.dup, 1) := by decide +kernel
theorem dX11_cancelRequest_4 : decode cX11_cancelRequest 4 = .ok (.aload_n 0, 1) := by decide +kernel
theorem dX11_cancelRequest_5 : decode cX11_cancelRequest 5 = .ok (.getfield 28, 3) := by decide +kernel
theorem dX11_cancelRequest_8 : decode cX11_cancelRequest 8 = .ok (.aload_n 0, 1) := by decide +kernel
theorem dX11_cancelRequest_9 : decode cX11_cancelRequest 9 = .ok (.getfield 28, 3) := by decide +kernel
theorem dX11_cancelRequest_12 : decode cX11_cancelRequest 12 = .ok (.aload_n 0, 1) := by decide +kernel
theorem dX11_cancelRequest_13 : decode cX11_cancelRequest 13 = .ok (.getfield 28, 3) := by decide +kernel
theorem dX11_cancelRequest_16 : decode cX11_cancelRequest 16 = .ok (.iconst 0, 1) := by decide +kernel
theorem dX11_cancelRequest_17 : decode cX11_cancelRequest 17 = .ok (.ldc_w 271, 3) := by decide +kernel
theorem dX11_cancelRequest_20 : decode cX11_cancelRequest 20 = .ok (.invokevirtual 260, 3) := by decide +kernel
theorem dX11_cancelRequest_23 : decode cX11_cancelRequest 23 = .ok (.ldc_w 259, 3) := by decide +kernel
theorem dX11_cancelRequest_26 : decode cX11_cancelRequest 26 = .ok (.invokevirtual 260, 3) := by decide +kernel
theorem dX11_cancelRequest_29 : decode cX11_cancelRequest 29 = .ok (.invokespecial 264, 3) := by decide +kernel
theorem dX11_cancelRequest_32 : decode cX11_cancelRequest 32 = .ok (.astore_n 1, 1) := by decide +kernel
theorem dX11_cancelRequest_33 : decode cX11_cancelRequest 33 = .ok (.iconst 0, 1) := by decide +kernel
theorem dX11_cancelRequest_34 : decode cX11_cancelRequest 34 = .ok (.istore_n 2, 1) := by decide +kernel
theorem dX11_cancelRequest_35 : decode cX11_cancelRequest 35 = .ok (.iload_n 2, 1) := by decide +kernel
theorem dX11_cancelRequest_36 : decode cX11_cancelRequest 36 = .ok (.aload_n 0, 1) := by decide +kernel
theorem dX11_cancelRequest_37 : decode cX11_cancelRequest 37 = .ok (.getfield 65, 3) := by decide +kernel
theorem dX11_cancelRequest_40 : decode cX11_cancelRequest 40 = .ok (.invokeinterface 142 1, 5) := by decide +kernel
theorem dX11_cancelRequest_45 : decode cX11_cancelRequest 45 = .ok (.if_icmp .ge 50, 3) := by decide +kernel
theorem dX11_cancelRequest_48 : decode cX11_cancelRequest 48 = .ok (.aload_n 0, 1) := by decide +kernel
theorem dX11_cancelRequest_49 : decode cX11_cancelRequest 49 = .ok (.getfield 65, 3) := by decide +kernel
theorem dX11_cancelRequest_52 : decode cX11_cancelRequest 52 = .ok (.iload_n 2, 1) := by decide +kernel
theorem dX11_cancelRequest_53 : decode cX11_cancelRequest 53 = .ok (.invokeinterface 249 2, 5) := by decide +kernel
theorem dX11_cancelRequest_58 : decode cX11_cancelRequest 58 = .ok (.checkcast 115, 3) := by decide +kernel
theorem dX11_cancelRequest_61 : decode cX11_cancelRequest 61 = .ok (.aload_n 1, 1) := by decide +kernel
theorem dX11_cancelRequest_62 : decode cX11_cancelRequest 62 = .ok (.invokevirtual 426, 3) := by decide +kernel
theorem dX11_cancelRequest_65 : decode cX11_cancelRequest 65 = .ok (.ifCond .eq 24, 3) := by decide +kernel
theorem dX11_cancelRequest_68 : decode cX11_cancelRequest 68 = .ok (.aload_n 0, 1) := by decide +kernel
theorem dX11_cancelRequest_69 : decode cX11_cancelRequest 69 = .ok (.aload_n 0, 1) := by decide +kernel
theorem dX11_cancelRequest_70 : decode cX11_cancelRequest 70 = .ok (.getfield 65, 3) := by decide +kernel
theorem dX11_cancelRequest_73 : decode cX11_cancelRequest 73 = .ok (.iload_n 2, 1) := by decide +kernel
theorem dX11_cancelRequest_74 : decode cX11_cancelRequest 74 = .ok (.invokeinterface 423 2, 5) := by decide +kernel
theorem dX11_cancelRequest_79 : decode cX11_cancelRequest 79 = .ok (.checkcast 115, 3) := by decide +kernel
theorem dX11_cancelRequest_82 : decode cX11_cancelRequest 82 = .ok (.ldc_w 429, 3) := by decide +kernel
theorem dX11_cancelRequest_85 : decode cX11_cancelRequest 85 = .ok (.invokevirtual 267, 3) := by decide +kernel
theorem dX11_cancelRequest_88 : decode cX11_cancelRequest 88 = .ok (.return_, 1) := by decide +kernel
theorem dX11_cancelRequest_89 : decode cX11_cancelRequest 89 = .ok (.iinc 2 1, 3) := by decide +kernel
theorem dX11_cancelRequest_92 : decode cX11_cancelRequest 92 = .ok (.goto (-57), 3) := by decide +kernel
theorem dX11_cancelRequest_95 : decode cX11_cancelRequest 95 = .ok (.return_, 1) := by decide +kernel
theorem dX11_aimAtName_0 : decode cX11_aimAtName 0 = .ok (.aload_n 0, 1) := by decide +kernel
theorem dX11_aimAtName_1 : decode cX11_aimAtName 1 = .ok (.invokevirtual 359, 3) := by decide +kernel
theorem dX11_aimAtName_4 : decode cX11_aimAtName 4 = .ok (.astore_n 2, 1) := by decide +kernel
theorem dX11_aimAtName_5 : decode cX11_aimAtName 5 = .ok (.aload_n 0, 1) := by decide +kernel
theorem dX11_aimAtName_6 : decode cX11_aimAtName 6 = .ok (.getfield 28, 3) := by decide +kernel
theorem dX11_aimAtName_9 : decode cX11_aimAtName 9 = .ok (.aload_n 0, 1) := by decide +kernel
theorem dX11_aimAtName_10 : decode cX11_aimAtName 10 = .ok (.getfield 28, 3) := by decide +kernel
theorem dX11_aimAtName_13 : decode cX11_aimAtName 13 = .ok (.iconst 0, 1) := by decide +kernel
theorem dX11_aimAtName_14 : decode cX11_aimAtName 14 = .ok (.ldc_w 271, 3) := by decide +kernel
theorem dX11_aimAtName_17 : decode cX11_aimAtName 17 = .ok (.invokevirtual 260, 3) := by decide +kernel
theorem dX11_aimAtName_20 : decode cX11_aimAtName 20 = .ok (.ldc_w 441, 3) := by decide +kernel
theorem dX11_aimAtName_23 : decode cX11_aimAtName 23 = .ok (.invokevirtual 260, 3) := by decide +kernel
theorem dX11_aimAtName_26 : decode cX11_aimAtName 26 = .ok (.istore_n 3, 1) := by decide +kernel
theorem dX11_aimAtName_27 : decode cX11_aimAtName 27 = .ok (.aload_n 2, 1) := by decide +kernel
theorem dX11_aimAtName_28 : decode cX11_aimAtName 28 = .ok (.ifnull 15, 3) := by decide +kernel
theorem dX11_aimAtName_31 : decode cX11_aimAtName 31 = .ok (.aload_n 0, 1) := by decide +kernel
theorem dX11_aimAtName_32 : decode cX11_aimAtName 32 = .ok (.getfield 28, 3) := by decide +kernel
theorem dX11_aimAtName_35 : decode cX11_aimAtName 35 = .ok (.iload_n 3, 1) := by decide +kernel
theorem dX11_aimAtName_36 : decode cX11_aimAtName 36 = .ok (.invokevirtual 283, 3) := by decide +kernel
theorem dX11_aimAtName_39 : decode cX11_aimAtName 39 = .ok (.iconst 3, 1) := by decide +kernel
theorem dX11_aimAtName_40 : decode cX11_aimAtName 40 = .ok (.if_icmp .eq 5, 3) := by decide +kernel
theorem dX11_aimAtName_43 : decode cX11_aimAtName 43 = .ok (.iconst 0, 1) := by decide +kernel
theorem dX11_aimAtName_44 : decode cX11_aimAtName 44 = .ok (.ireturn, 1) := by decide +kernel
theorem dX11_aimAtName_45 : decode cX11_aimAtName 45 = .ok (.aload_n 0, 1) := by decide +kernel
theorem dX11_aimAtName_46 : decode cX11_aimAtName 46 = .ok (.getfield 28, 3) := by decide +kernel
theorem dX11_aimAtName_49 : decode cX11_aimAtName 49 = .ok (.iload_n 3, 1) := by decide +kernel
theorem dX11_aimAtName_50 : decode cX11_aimAtName 50 = .ok (.invokevirtual 363, 3) := by decide +kernel
theorem dX11_aimAtName_53 : decode cX11_aimAtName 53 = .ok (.astore 4, 2) := by decide +kernel
theorem dX11_aimAtName_55 : decode cX11_aimAtName 55 = .ok (.aload_n 1, 1) := by decide +kernel
theorem dX11_aimAtName_56 : decode cX11_aimAtName 56 = .ok (.aload_n 2, 1) := by decide +kernel
theorem dX11_aimAtName_57 : decode cX11_aimAtName 57 = .ok (.putfield 432, 3) := by decide +kernel
theorem dX11_aimAtName_60 : decode cX11_aimAtName 60 = .ok (.aload_n 1, 1) := by decide +kernel
theorem dX11_aimAtName_61 : decode cX11_aimAtName 61 = .ok (.aload_n 2, 1) := by decide +kernel
theorem dX11_aimAtName_62 : decode cX11_aimAtName 62 = .ok (.getfield 168, 3) := by decide +kernel
theorem dX11_aimAtName_65 : decode cX11_aimAtName 65 = .ok (.putfield 438, 3) := by decide +kernel
theorem dX11_aimAtName_68 : decode cX11_aimAtName 68 = .ok (.aload_n 1, 1) := by decide +kernel
theorem dX11_aimAtName_69 : decode cX11_aimAtName 69 = .ok (.iconst 1, 1) := by decide +kernel
theorem dX11_aimAtName_70 : decode cX11_aimAtName 70 = .ok (.putfield 443, 3) := by decide +kernel
theorem dX11_aimAtName_73 : decode cX11_aimAtName 73 = .ok (.aload_n 1, 1) := by decide +kernel
theorem dX11_aimAtName_74 : decode cX11_aimAtName 74 = .ok (.aload_n 0, 1) := by decide +kernel
theorem dX11_aimAtName_75 : decode cX11_aimAtName 75 = .ok (.getfield 41, 3) := by decide +kernel
theorem dX11_aimAtName_78 : decode cX11_aimAtName 78 = .ok (.getfield 47, 3) := by decide +kernel
theorem dX11_aimAtName_81 : decode cX11_aimAtName 81 = .ok (.aload 4, 2) := by decide +kernel
theorem dX11_aimAtName_83 : decode cX11_aimAtName 83 = .ok (.iconst 0, 1) := by decide +kernel
theorem dX11_aimAtName_84 : decode cX11_aimAtName 84 = .ok (.aload 4, 2) := by decide +kernel
theorem dX11_aimAtName_86 : decode cX11_aimAtName 86 = .ok (.arraylength, 1) := by decide +kernel
theorem dX11_aimAtName_87 : decode cX11_aimAtName 87 = .ok (.iconst 0, 1) := by decide +kernel
theorem dX11_aimAtName_88 : decode cX11_aimAtName 88 = .ok (.invokevirtual 446, 3) := by decide +kernel
theorem dX11_aimAtName_91 : decode cX11_aimAtName 91 = .ok (.putfield 451, 3) := by decide +kernel
theorem dX11_aimAtName_94 : decode cX11_aimAtName 94 = .ok (.iconst 1, 1) := by decide +kernel
theorem dX11_aimAtName_95 : decode cX11_aimAtName 95 = .ok (.ireturn, 1) := by decide +kernel
def EX11_aimAtName : List (Nat × Nat) := [(8, 3), (10, 1), (10, 2), (10, 3), (10, 4), (101, 0), (102, 0), (132, 0), (133, 0)]
def EX11_cancelRequest : List (Nat × Nat) := [(1, 0), (1, 2), (2, 0), (2, 1), (13, 14), (101, 0), (196, 0), (221, 0), (222, 0), (223, 0)]
def EX11_request : List (Nat × Nat) := [(1, 0), (1, 1), (1, 2), (2, 0), (2, 1), (8, 3), (9, 2), (10, 1), (10, 2), (10, 3), (10, 4), (13, 11), (13, 14), (101, 0), (102, 0), (132, 0), (133, 0), (196, 0), (221, 0), (222, 0), (223, 0), (286, 0), (287, 0), (288, 0)]
def qtx865 : String := match tables_1[865]? with | some (Jvm.Cond.stringRef _ _ t) => t | _ => ""
set_option maxHeartbeats 4000000 in
set_option maxRecDepth 20000 in
theorem uX11_aimAtName (l : Launch) (dC : Nat → ClassId) (dI : Nat → Nat → Nat) (ca : Nat → ClassId) (base : Nat) (B : jF) (hB : jBok B) (hAp : jAp (dC, dI)) (hB1 : ∀ n G a H, B 1 n G a H ↔ jOb (dC, dI) 1 3 (F1 n G) a H) (hB3 : ∀ n G a H, B 3 n G a H ↔ jOb (dC, dI) 3 17 (F3 n G) a H) (hB6 : ∀ n G a H, B 6 n G a H ↔ jOb (dC, dI) 6 12 (F6 n G) a H) (hB7 : ∀ n G a H, B 7 n G a H ↔ jOb (dC, dI) 7 11 (F7 n G) a H) (hB8 : ∀ n G a H, B 8 n G a H ↔ jOb (dC, dI) 8 4 (F8 n G) a H) (hB10 : ∀ n G a H, B 10 n G a H ↔ jOb (dC, dI) 10 5 (F10 n G) a H) (hB13 : ∀ n G a H, B 13 n G a H ↔ jOb (dC, dI) 13 19 (F13 n G) a H) (hB101 : ∀ n G a H, B 101 n G a H ↔ jAr (dC, dI) (ca 1) (fun j z => True) n a H) (hB102 : ∀ n G a H, B 102 n G a H ↔ jAl (dC, dI) (ca 2) n a H) (hB132 : ∀ n G a H, B 132 n G a H ↔ jAr (dC, dI) (ca 1) (fun j z => 0 ≤ z.toInt ∧ z.toInt ≤ 10) n a H) (hB133 : ∀ n G a H, B 133 n G a H ↔ jAr (dC, dI) (ca 1) (fun j z => 0 ≤ z.toInt ∧ z.toInt ≤ 8192) n a H) (hB140 : ∀ n G a H, B 140 n G a H ↔ jAr (dC, dI) (ca 1) (fun j z => True) n a H) (hB141 : ∀ n G a H, B 141 n G a H ↔ jAr (dC, dI) (ca 1) (fun j z => True) n a H) (hB142 : ∀ n G a H, B 142 n G a H ↔ jAr (dC, dI) (ca 1) (fun j z => True) n a H) (hB143 : ∀ n G a H, B 143 n G a H ↔ jAr (dC, dI) (ca 1) (fun j z => True) n a H) (hB144 : ∀ n G a H, B 144 n G a H ↔ jAr (dC, dI) (ca 1) (fun j z => 0 ≤ z.toInt ∧ z.toInt ≤ 3000) n a H) (hB145 : ∀ n G a H, B 145 n G a H ↔ jAr (dC, dI) (ca 1) (fun j z => True) n a H) (hB146 : ∀ n G a H, B 146 n G a H ↔ jAr (dC, dI) (ca 1) (fun j z => True) n a H) (hB221 : ∀ n G a H, B 221 n G a H ↔ jAq (dC, dI) (ca 9) (jQn 3 0) n G a H) (G0 : jT) (H0 : Heap) (r0 : Nat) (r1 : Nat) (js : Nat) (pv : Int32) (pu : Int32) (wk : Nat) (wi : Nat) (wz : Nat) (jks : Nat) (fk : Nat → Int32) (fi : Nat → Int32) (fz : Nat → Int32) (fs : Nat → Int32) (LC LS : Nat) : Met l yX11_aimAtName (jw yX11_aimAtName cX11_aimAtName 5 (some .boolean)) ({ frames := 7, cells := LC - H0.size, slots := LS - jTot H0, locals := 212 }) (va_Pc [.ref r0, .ref r1] (fun U => U.heap = H0 ∧ jX B base G0 [] H0 ∧ jG dC dI ca base U ∧ jK7 dC dI ca base U ∧ G0 r0 = some (13, 0) ∧ G0 r1 = some (10, 0) ∧ G0 js = some (6, 0) ∧ G0 wk = some (140, 1502) ∧ G0 wi = some (141, 1502) ∧ G0 wz = some (142, 1502) ∧ G0 jks = some (145, 1502) ∧ jP (dC, dI) G0 H0 [(r0, 13, 2, .ref js), (js, 6, 7, .int pv), (js, 6, 8, .int pu), (js, 6, 0, .ref wk), (js, 6, 1, .ref wi), (js, 6, 2, .ref wz), (js, 6, 5, .ref jks)] ∧ jMc (dC, dI) G0 H0 [(wk, 140, 1502, ca 1, fk), (wi, 141, 1502, ca 1, fi), (wz, 142, 1502, ca 1, fz), (jks, 145, 1502, ca 1, fs)] ∧ jIs (dC, dI) G0 H0 [(jFl, jLs dC dI ca G0 3 none)] ∧ H0.size + 1 ≤ LC ∧ jTot H0 + 3000 ≤ LS ∧ 0 ≤ pv.toInt ∧ pv.toInt ≤ 1502 ∧ 0 ≤ pu.toInt ∧ pu.toInt ≤ 3000 ∧ jJq fk fi fz pv.toInt ∧ jJu fk fz pv.toInt pu.toInt)) (va_Qi (S := jT) (fun r u => (r = 0 ∨ r = 1) ∧ (True)) (fun u t => jRa (dC, dI) B base G0 u EX11_aimAtName H0 (1) (pu.toInt.toNat) [] t.heap ∧ (jNk [0, 1, 2, 3, 4, 5, 6, 7, 8, 9, 10, 11, 12, 13, 14, 15, 16]) G0 u ∧ jIs (dC, dI) u t.heap [(jFl, jLs dC dI ca u 3 none)]) (jA base)) (LC - H0.size) (LS - jTot H0) (jA base) := by
  refine Met.ofW (cc := cX11_aimAtName) (maxL := 5) (ret := (some .boolean)) (by decide) rfl ?_
  intro p e s m args below meth c s₁ Bd hml hv
  obtain ⟨rfl, hH0, hX, hG, hK7, hg_r0, hg_r1, hg_js, hg_wk, hg_wi, hg_wz, hg_jks, hP0, hM0, hI0, hLC0, hLS0, hp0, hp1, hp2, hp3, hp4, hp5⟩ := hv
  have hK := hG.1
  have hx := Bd.exec
  have hb := Bd.bytes
  have hr := Bd.returns
  have hts := atoms_spec (ws := (jw yX11_aimAtName cX11_aimAtName 5 (some .boolean))) Bd.pre
  have htw : ∀ w ∈ jWl, w.before _ s = true := fun w h => hts w (List.mem_cons_of_mem _ h)
  have hown : s.vm.findClass RX11 = some m.cls := findClass_of_methodNamed Bd.named
  have hlocks := Bd.notSynchronized
  obtain ⟨Q, hQ⟩ : ∃ Q, Q = MQ below (va_Qi (S := jT) (fun r u => (r = 0 ∨ r = 1) ∧ (True)) (fun u t => jRa (dC, dI) B base G0 u EX11_aimAtName H0 (1) (pu.toInt.toNat) [] t.heap ∧ (jNk [0, 1, 2, 3, 4, 5, 6, 7, 8, 9, 10, 11, 12, 13, 14, 15, 16]) G0 u ∧ jIs (dC, dI) u t.heap [(jFl, jLs dC dI ca u 3 none)]) (jA base)) ([.ref r0, .ref r1] : List Value).toArray s (LC - H0.size) (LS - jTot H0) (jA base) := ⟨_, rfl⟩
  rw [← hQ]
  have hl := lv_entry ([.ref r0, .ref r1]) (n := 5) (Nat.le_of_ble_eq_true rfl)
  rw [lg_entry_eq]
  generalize (lg_sl ([.ref r0, .ref r1]) ++ List.replicate (5 - (lg_sl ([.ref r0, .ref r1])).length) Slot.unset).toArray = ls at hl ⊢
  have hl : lv_has ls 5 [(0, .ref r0), (1, .ref r1)] := hl
  generalize hR : (headSpec (jw yX11_aimAtName cX11_aimAtName 5 (some .boolean)) ({ frames := 7, cells := LC - H0.size, slots := LS - jTot H0, locals := 212 })).room = R
  subst hH0
  have hh : jSt (dC, dI) B base G0 G0 EX11_aimAtName s.heap 0 0 [(r0, 13, 2, .ref js), (js, 6, 7, .int pv), (js, 6, 8, .int pu), (js, 6, 0, .ref wk), (js, 6, 1, .ref wi), (js, 6, 2, .ref wz), (js, 6, 5, .ref jks)] [(wk, 140, 1502, ca 1, fk), (wi, 141, 1502, ca 1, fi), (wz, 142, 1502, ca 1, fz), (jks, 145, 1502, ca 1, fs)] [(jFl, jLs dC dI ca G0 3 none)] s.heap [] := jSt.start hX hP0 hM0 hI0
  clear hX hP0
  have hk0 : (0 : Int32).toInt = 0 := by decide
  have hk1 : (1 : Int32).toInt = 1 := by decide
  have hk3 : (3 : Int32).toInt = 3 := by decide
  have hly_3_4 := htw (u_lay RX1 TX1 4) (jWc_wsX10 _ (u_in_lay (by decide)))
  have hly_7_0 := htw (u_lay RX5 TX5 0) (jWc_wsX50 _ (u_in_lay (by decide)))
  have hly_10_1 := htw (u_lay RX8 TX8 1) (jWc_wsX80 _ (u_in_lay (by decide)))
  have hly_10_2 := htw (u_lay RX8 TX8 2) (jWc_wsX80 _ (u_in_lay (by decide)))
  have hly_10_3 := htw (u_lay RX8 TX8 3) (jWc_wsX80 _ (u_in_lay (by decide)))
  have hly_10_4 := htw (u_lay RX8 TX8 4) (jWc_wsX80 _ (u_in_lay (by decide)))
  have hly_13_2 := htw (u_lay RX11 TX11 2) (jWc_wsX110 _ (u_in_lay (by decide)))
  have hly_13_5 := htw (u_lay RX11 TX11 5) (jWc_wsX110 _ (u_in_lay (by decide)))
  have hlk_28 := (htw (.fieldLink RX11 28 "ProofServer" "json" "LProofServer$Json;") (jWr_1 _ (List.mem_of_getElem? (i := 23) rfl)))
  obtain ⟨str271, rstr271, hstr2710⟩ := hG.str (o := RX11) (k := 271) (tx := "params") (List.mem_of_getElem? (i := 852) (by decide +kernel))
  have hstr271 : jStr base str271 6 s s.heap := hstr2710
  obtain ⟨str441, rstr441, hstr4410⟩ := hG.str (o := RX11) (k := 441) (tx := "name") (List.mem_of_getElem? (i := 1088) (by decide +kernel))
  have hstr441 : jStr base str441 4 s s.heap := hstr4410
  have hlk_432 := (htw (.fieldLink RX11 432 "ProofServer$Request" "about" "LProofServer$Document;") (jWr_27 _ (List.mem_of_getElem? (i := 14) rfl)))
  have hlk_168 := (htw (.fieldLink RX11 168 "ProofServer$Document" "sentences" "I") (jWr_35 _ (List.mem_of_getElem? (i := 4) rfl)))
  have hlk_438 := (htw (.fieldLink RX11 438 "ProofServer$Request" "needed" "I") (jWr_27 _ (List.mem_of_getElem? (i := 15) rfl)))
  have hlk_443 := (htw (.fieldLink RX11 443 "ProofServer$Request" "isStatement" "Z") (jWr_30 _ (List.mem_of_getElem? (i := 7) rfl)))
  have hlk_41 := (htw (.fieldLink RX11 41 "ProofServer" "kernel" "LProofServer$Kernel;") (jWr_2 _ (List.mem_of_getElem? (i := 5) rfl)))
  have hlk_47 := (htw (.fieldLink RX11 47 "ProofServer$Kernel" "names" "LProofServer$Names;") (jWr_2 _ (List.mem_of_getElem? (i := 9) rfl)))
  have hlk_451 := (htw (.fieldLink RX11 451 "ProofServer$Request" "name" "I") (jWr_30 _ (List.mem_of_getElem? (i := 8) rfl)))
  have hbs : base ≤ s.heap.size := Nat.le_of_lt (Nat.lt_of_le_of_lt (hh.ab hg_r0).1 (hh.ab hg_r0).2)
  have hRc : R.cells = LC - s.heap.size := by rw [← hR]; rfl
  have hRs : R.slots = LS - jTot s.heap := by rw [← hR]; rfl
  refine lv_aload_n hx hb dX11_aimAtName_0 rfl (lv_at hl 0 rfl) ?_
  have hsz_1 := hh.2.2.2.2.2.1
  have htt_1 := hh.2.2.2.2.2.2.1
  refine W.room (fun hrc_1 hrs_1 => ?_)
  refine j_callx (A0 := jA base) (H0 := s.heap) (va_runV (As := []) (rest := []) ⟨hx, hb, hml, hown, hts⟩ (uX11_addressed l dC dI ca base B hB hAp hB1 hB3 hB6 hB13 hB101 hB140 hB141 hB142 hB143 hB144 hB145 hB146 hB221 G0 s.heap r0) (cwV 0 hts (jgV (jWr_27 _ (List.mem_of_getElem? (i := 16) rfl)) (jWr_27 _ (List.mem_of_getElem? (i := 17) rfl)) (jWr_27 _ (List.mem_of_getElem? (i := 18) rfl)) (jWr_1 _ (List.mem_of_getElem? (i := 2) rfl)) (jWr_27 _ (List.mem_of_getElem? (i := 19) rfl))) rfl rfl rfl (by decide +kernel) ⟨by rw [← hR]; exact Nat.le_of_ble_eq_true rfl, by rw [← hR]; exact Nat.le_of_ble_eq_true rfl⟩) ⟨fun a U g mk q => by obtain ⟨q0, q1, q2, qK, q10, q11, q12, q13, q14⟩ := q; exact ⟨q0, q1, q2, jG.calling g mk a qK, (jK7.calling g mk a q10), q11, q12, q13, q14⟩, hh.recv (C := RX11) (T := TX11) (N := 19) hB13 rfl (by decide) hg_r0 hK, fun U hU hW => ⟨rfl, hU, hh.2.1, hG.step hW hU hh.1, (hK7.step hW hU hh.1), hg_r0, jP.nil, (hh.2.2.2.2.2.2.2.2.sub (L1 := [(jFl, jLs dC dI ca G0 3 none)]) [0] rfl), trivial⟩⟩ rfl rfl hl.1 rfl (lv_room (Nat.le_of_ble_eq_true rfl)) dX11_aimAtName_1 ⟨by rw [hRc]; show _ + 0 ≤ _; omega, by rw [hRs]; show _ + 0 ≤ _; omega⟩) hh.1 (fun q _ h => h) (fun q h => h) (fun r_2 u_1 t_1 H_1 locs_1 ht_1 hvm_1 hr_2 hb_1 hz_1 hk_1 hS_1 => ?_)
  rw [ht_1] at hb_1
  obtain ⟨hb_1, hbE_1⟩ := hb_1
  obtain ⟨hb_11, hb_12, hb_13, hb_14, hb_15⟩ := hb_1
  have hh_1 : jSt (dC, dI) B base G0 G0 EX11_aimAtName s.heap 0 0 [(r0, 13, 2, .ref js), (js, 6, 7, .int pv), (js, 6, 8, .int pu), (js, 6, 0, .ref wk), (js, 6, 1, .ref wi), (js, 6, 2, .ref wz), (js, 6, 5, .ref jks)] [(wk, 140, 1502, ca 1, fk), (wi, 141, 1502, ca 1, fi), (wz, 142, 1502, ca 1, fz), (jks, 145, 1502, ca 1, fs)] [(jFl, jLs dC dI ca G0 3 none)] H_1 locs_1 := (((hh.call hb_11 hb_12 hb_13 hb_14 hS_1 rfl (L1 := [(r0, 13, 2, .ref js), (js, 6, 7, .int pv), (js, 6, 8, .int pu), (js, 6, 0, .ref wk), (js, 6, 1, .ref wi), (js, 6, 2, .ref wz), (js, 6, 5, .ref jks)]) [0, 1, 2, 3, 4, 5, 6] rfl rfl (M1 := [(wk, 140, 1502, ca 1, fk), (wi, 141, 1502, ca 1, fi), (wz, 142, 1502, ca 1, fz), (jks, 145, 1502, ca 1, fs)]) [0, 1, 2, 3] rfl rfl (I1 := []) [] rfl rfl).more hb_15)).addIs hbE_1
  clear hh ht_1 hvm_1 hz_1 hk_1 hS_1 hb_11 hb_12 hb_13 hb_14 hb_15
  clear  hbE_1
  rcases hr_2 with rfl | ⟨ret_3, rfl, hg_ret_3⟩
  · skip
    refine j7_nst_n (lv' := [(2, .null), (0, .ref r0), (1, .ref r1)]) hx hb dX11_aimAtName_4 rfl hl (by decide) rfl (fun ls hl => ?_)
    refine lv_aload_n hx hb dX11_aimAtName_5 rfl (lv_at hl 1 rfl) ?_
    refine j7_read hx hb hown hK (C := RX11) (T := TX11) (N := 19) rfl hly_13_2 hlk_28 (hh_1.at 0 rfl) dX11_aimAtName_6 ?_
    refine lv_aload_n hx hb dX11_aimAtName_9 rfl (lv_at hl 1 rfl) ?_
    refine j7_read hx hb hown hK (C := RX11) (T := TX11) (N := 19) rfl hly_13_2 hlk_28 (hh_1.at 0 rfl) dX11_aimAtName_10 ?_
    refine lv_iconst (v := 0) hx hb dX11_aimAtName_13 (by decide) ?_
    refine j_ldcSw hx hb hown rstr271 dX11_aimAtName_14 ?_
    have hsz_4 := hh_1.2.2.2.2.2.1
    have htt_4 := hh_1.2.2.2.2.2.2.1
    refine W.room (fun hrc_4 hrs_4 => ?_)
    refine va_calli (A0 := jA base) (H0 := s.heap) (va_runV (As := [.int 0, .ref str271]) (rest := [.ref js]) ⟨hx, hb, hml, hown, hts⟩ (uX4_memberQ l dC dI ca base B hB hAp hB6 hB140 hB141 hB142 hB143 hB144 hB145 hB146 G0 H_1 js 0 str271 6 pv wk wi wz jks fk fi fz fs) (cwV 2 hts (jgV (jWr_23 _ (List.mem_of_getElem? (i := 10) rfl)) (jWr_23 _ (List.mem_of_getElem? (i := 11) rfl)) (jWr_23 _ (List.mem_of_getElem? (i := 12) rfl)) (jWr_1 _ (List.mem_of_getElem? (i := 22) rfl)) (jWr_23 _ (List.mem_of_getElem? (i := 13) rfl))) rfl rfl rfl (by decide +kernel) ⟨by rw [← hR]; exact Nat.le_of_ble_eq_true rfl, by rw [← hR]; exact Nat.le_of_ble_eq_true rfl⟩) ⟨fun a U g mk q => by obtain ⟨q0, q1, q2, qK, q10, q11, q12, q13, q14, q15, q16, q17, q18⟩ := q; exact ⟨q0, q1, q2, jG.calling g mk a qK, (q10.moved (Vm.Alike.refl U.vm)), q11, q12, q13, q14, q15, q16, q17, q18⟩, hh_1.recv (C := RX4) (T := TX4) (N := 12) hB6 rfl (by decide) hg_js hK, fun U hU hW => ⟨rfl, hU, hh_1.2.1, hG.step hW hU hh_1.1, (hstr271.moved hW.alike).kept hh_1.1.2.1, hg_js, hg_wk, hg_wi, hg_wz, hg_jks, (hh_1.2.2.1.sub (L1 := [(js, 6, 7, .int pv), (js, 6, 0, .ref wk), (js, 6, 1, .ref wi), (js, 6, 2, .ref wz), (js, 6, 5, .ref jks)]) [1, 3, 4, 5, 6] rfl), (hh_1.2.2.2.2.2.2.2.1.sub (L1 := [(wk, 140, 1502, ca 1, fk), (wi, 141, 1502, ca 1, fi), (wz, 142, 1502, ca 1, fz), (jks, 145, 1502, ca 1, fs)]) [0, 1, 2, 3] rfl), by first | omega | (refine ⟨?_, ?_, ?_⟩ <;> (first | omega | rfl | assumption | decide | exact Or.inl rfl | exact Or.inr rfl | (simp only; omega)))⟩⟩ rfl rfl hl.1 rfl (lv_room (Nat.le_of_ble_eq_true rfl)) dX11_aimAtName_17 ⟨by rw [hRc]; show _ + 0 ≤ _; omega, by rw [hRs]; show _ + 0 ≤ _; omega⟩) hh_1.1 (fun q _ h => h) (fun q h => h) (fun r_5 u_4 t_4 H_4 locs_4 ht_4 hvm_4 hr_5 hb_4 hz_4 hk_4 hS_4 => ?_)
    rw [ht_4] at hb_4
    obtain ⟨hb_4, hbF_4⟩ := hb_4
    obtain ⟨hb_41, hb_42, hb_43, hb_44, hb_45⟩ := hb_4
    have hh_4 : jSt (dC, dI) B base G0 G0 EX11_aimAtName s.heap 0 0 [(r0, 13, 2, .ref js), (js, 6, 7, .int pv), (js, 6, 8, .int pu), (js, 6, 0, .ref wk), (js, 6, 1, .ref wi), (js, 6, 2, .ref wz), (js, 6, 5, .ref jks)] [(wk, 140, 1502, ca 1, fk), (wi, 141, 1502, ca 1, fi), (wz, 142, 1502, ca 1, fz), (jks, 145, 1502, ca 1, fs)] [(jFl, jLs dC dI ca G0 3 none)] H_4 locs_4 := ((hh_1.call hb_41 hb_42 hb_43 hb_44 hS_4 rfl (L1 := [(r0, 13, 2, .ref js), (js, 6, 7, .int pv), (js, 6, 8, .int pu), (js, 6, 0, .ref wk), (js, 6, 1, .ref wi), (js, 6, 2, .ref wz), (js, 6, 5, .ref jks)]) [0, 1, 2, 3, 4, 5, 6] rfl rfl (M1 := [(wk, 140, 1502, ca 1, fk), (wi, 141, 1502, ca 1, fi), (wz, 142, 1502, ca 1, fz), (jks, 145, 1502, ca 1, fs)]) [0, 1, 2, 3] rfl rfl (I1 := [(jFl, jLs dC dI ca G0 3 none)]) [0] rfl rfl).more hb_45)
    clear hh_1 ht_4 hvm_4 hz_4 hk_4 hS_4 hb_41 hb_42 hb_43 hb_44 hb_45
    obtain ⟨hr_5_0, hr_5_1, hr_5_2⟩ := hr_5
    refine j_ldcSw hx hb hown rstr441 dX11_aimAtName_20 ?_
    have hsz_6 := hh_4.2.2.2.2.2.1
    have htt_6 := hh_4.2.2.2.2.2.2.1
    refine W.room (fun hrc_6 hrs_6 => ?_)
    refine va_calli (A0 := jA base) (H0 := s.heap) (va_runV (As := [.int r_5, .ref str441]) (rest := []) ⟨hx, hb, hml, hown, hts⟩ (uX4_memberQ l dC dI ca base B hB hAp hB6 hB140 hB141 hB142 hB143 hB144 hB145 hB146 G0 H_4 js r_5 str441 4 pv wk wi wz jks fk fi fz fs) (cwV 2 hts (jgV (jWr_23 _ (List.mem_of_getElem? (i := 10) rfl)) (jWr_23 _ (List.mem_of_getElem? (i := 11) rfl)) (jWr_23 _ (List.mem_of_getElem? (i := 12) rfl)) (jWr_1 _ (List.mem_of_getElem? (i := 22) rfl)) (jWr_23 _ (List.mem_of_getElem? (i := 13) rfl))) rfl rfl rfl (by decide +kernel) ⟨by rw [← hR]; exact Nat.le_of_ble_eq_true rfl, by rw [← hR]; exact Nat.le_of_ble_eq_true rfl⟩) ⟨fun a U g mk q => by obtain ⟨q0, q1, q2, qK, q10, q11, q12, q13, q14, q15, q16, q17, q18⟩ := q; exact ⟨q0, q1, q2, jG.calling g mk a qK, (q10.moved (Vm.Alike.refl U.vm)), q11, q12, q13, q14, q15, q16, q17, q18⟩, hh_4.recv (C := RX4) (T := TX4) (N := 12) hB6 rfl (by decide) hg_js hK, fun U hU hW => ⟨rfl, hU, hh_4.2.1, hG.step hW hU hh_4.1, (hstr441.moved hW.alike).kept hh_4.1.2.1, hg_js, hg_wk, hg_wi, hg_wz, hg_jks, (hh_4.2.2.1.sub (L1 := [(js, 6, 7, .int pv), (js, 6, 0, .ref wk), (js, 6, 1, .ref wi), (js, 6, 2, .ref wz), (js, 6, 5, .ref jks)]) [1, 3, 4, 5, 6] rfl), (hh_4.2.2.2.2.2.2.2.1.sub (L1 := [(wk, 140, 1502, ca 1, fk), (wi, 141, 1502, ca 1, fi), (wz, 142, 1502, ca 1, fz), (jks, 145, 1502, ca 1, fs)]) [0, 1, 2, 3] rfl), by first | omega | (refine ⟨?_, ?_, ?_⟩ <;> (first | omega | rfl | assumption | decide | exact Or.inl rfl | exact Or.inr rfl | (simp only; omega)))⟩⟩ rfl rfl hl.1 rfl (lv_room (Nat.le_of_ble_eq_true rfl)) dX11_aimAtName_23 ⟨by rw [hRc]; show _ + 0 ≤ _; omega, by rw [hRs]; show _ + 0 ≤ _; omega⟩) hh_4.1 (fun q _ h => h) (fun q h => h) (fun r_7 u_6 t_6 H_6 locs_6 ht_6 hvm_6 hr_7 hb_6 hz_6 hk_6 hS_6 => ?_)
    rw [ht_6] at hb_6
    obtain ⟨hb_6, hbF_6⟩ := hb_6
    obtain ⟨hb_61, hb_62, hb_63, hb_64, hb_65⟩ := hb_6
    have hh_6 : jSt (dC, dI) B base G0 G0 EX11_aimAtName s.heap 0 0 [(r0, 13, 2, .ref js), (js, 6, 7, .int pv), (js, 6, 8, .int pu), (js, 6, 0, .ref wk), (js, 6, 1, .ref wi), (js, 6, 2, .ref wz), (js, 6, 5, .ref jks)] [(wk, 140, 1502, ca 1, fk), (wi, 141, 1502, ca 1, fi), (wz, 142, 1502, ca 1, fz), (jks, 145, 1502, ca 1, fs)] [(jFl, jLs dC dI ca G0 3 none)] H_6 locs_6 := ((hh_4.call hb_61 hb_62 hb_63 hb_64 hS_6 rfl (L1 := [(r0, 13, 2, .ref js), (js, 6, 7, .int pv), (js, 6, 8, .int pu), (js, 6, 0, .ref wk), (js, 6, 1, .ref wi), (js, 6, 2, .ref wz), (js, 6, 5, .ref jks)]) [0, 1, 2, 3, 4, 5, 6] rfl rfl (M1 := [(wk, 140, 1502, ca 1, fk), (wi, 141, 1502, ca 1, fi), (wz, 142, 1502, ca 1, fz), (jks, 145, 1502, ca 1, fs)]) [0, 1, 2, 3] rfl rfl (I1 := [(jFl, jLs dC dI ca G0 3 none)]) [0] rfl rfl).more hb_65)
    clear hh_4 ht_6 hvm_6 hz_6 hk_6 hS_6 hb_61 hb_62 hb_63 hb_64 hb_65
    obtain ⟨hr_7_0, hr_7_1, hr_7_2⟩ := hr_7
    refine lv_istore_n (lv' := [(3, .int r_7), (2, .null), (0, .ref r0), (1, .ref r1)]) hx hb dX11_aimAtName_26 rfl hl (by decide) rfl (fun ls hl => ?_)
    refine j7_nld_n hx hb dX11_aimAtName_27 rfl (lv_at hl 1 rfl) ?_
    refine lv_ifnullN (tgt := 43) hx hb dX11_aimAtName_28 (by decide) ?_
    refine lv_iconst (v := 0) hx hb dX11_aimAtName_43 (by decide) ?_
    have hsz_8 := hh_6.2.2.2.2.2.1
    have htt_8 := hh_6.2.2.2.2.2.2.1
    refine W.room (fun hrc_8 hrs_8 => ?_)
    refine W.widen (k := LC - s.heap.size) (n := LS - jTot s.heap) (by omega) (by omega) ?_
    rw [hQ]
    exact W.zret (v := 0) hx hb hr (jb_nz (Or.inl rfl)) (fun t ht hW => ⟨⟨0, G0, rfl, ⟨(Or.inl rfl), trivial⟩, ⟨hh_6.ra (by first | omega | (simp only; omega)) (by first | omega | (simp only; omega)) (M1 := []) [] rfl ht, jNk.rf, by rw [ht]; exact hh_6.2.2.2.2.2.2.2.2.sub (L1 := [(jFl, jLs dC dI ca G0 3 none)]) [0] rfl⟩⟩, by rw [ht]; try exact hh_6.1.1, fun q h9 hq => by rw [ht]; try exact hh_6.1.2.1 q h9 hq⟩) hh_6.1.2.2 dX11_aimAtName_44
  · skip
    refine lv_astore_n (lv' := [(2, .ref ret_3), (0, .ref r0), (1, .ref r1)]) hx hb dX11_aimAtName_4 rfl hl (by decide) rfl (fun ls hl => ?_)
    refine lv_aload_n hx hb dX11_aimAtName_5 rfl (lv_at hl 1 rfl) ?_
    refine j7_read hx hb hown hK (C := RX11) (T := TX11) (N := 19) rfl hly_13_2 hlk_28 (hh_1.at 0 rfl) dX11_aimAtName_6 ?_
    refine lv_aload_n hx hb dX11_aimAtName_9 rfl (lv_at hl 1 rfl) ?_
    refine j7_read hx hb hown hK (C := RX11) (T := TX11) (N := 19) rfl hly_13_2 hlk_28 (hh_1.at 0 rfl) dX11_aimAtName_10 ?_
    refine lv_iconst (v := 0) hx hb dX11_aimAtName_13 (by decide) ?_
    refine j_ldcSw hx hb hown rstr271 dX11_aimAtName_14 ?_
    have hsz_9 := hh_1.2.2.2.2.2.1
    have htt_9 := hh_1.2.2.2.2.2.2.1
    refine W.room (fun hrc_9 hrs_9 => ?_)
    refine va_calli (A0 := jA base) (H0 := s.heap) (va_runV (As := [.int 0, .ref str271]) (rest := [.ref js]) ⟨hx, hb, hml, hown, hts⟩ (uX4_memberQ l dC dI ca base B hB hAp hB6 hB140 hB141 hB142 hB143 hB144 hB145 hB146 G0 H_1 js 0 str271 6 pv wk wi wz jks fk fi fz fs) (cwV 2 hts (jgV (jWr_23 _ (List.mem_of_getElem? (i := 10) rfl)) (jWr_23 _ (List.mem_of_getElem? (i := 11) rfl)) (jWr_23 _ (List.mem_of_getElem? (i := 12) rfl)) (jWr_1 _ (List.mem_of_getElem? (i := 22) rfl)) (jWr_23 _ (List.mem_of_getElem? (i := 13) rfl))) rfl rfl rfl (by decide +kernel) ⟨by rw [← hR]; exact Nat.le_of_ble_eq_true rfl, by rw [← hR]; exact Nat.le_of_ble_eq_true rfl⟩) ⟨fun a U g mk q => by obtain ⟨q0, q1, q2, qK, q10, q11, q12, q13, q14, q15, q16, q17, q18⟩ := q; exact ⟨q0, q1, q2, jG.calling g mk a qK, (q10.moved (Vm.Alike.refl U.vm)), q11, q12, q13, q14, q15, q16, q17, q18⟩, hh_1.recv (C := RX4) (T := TX4) (N := 12) hB6 rfl (by decide) hg_js hK, fun U hU hW => ⟨rfl, hU, hh_1.2.1, hG.step hW hU hh_1.1, (hstr271.moved hW.alike).kept hh_1.1.2.1, hg_js, hg_wk, hg_wi, hg_wz, hg_jks, (hh_1.2.2.1.sub (L1 := [(js, 6, 7, .int pv), (js, 6, 0, .ref wk), (js, 6, 1, .ref wi), (js, 6, 2, .ref wz), (js, 6, 5, .ref jks)]) [1, 3, 4, 5, 6] rfl), (hh_1.2.2.2.2.2.2.2.1.sub (L1 := [(wk, 140, 1502, ca 1, fk), (wi, 141, 1502, ca 1, fi), (wz, 142, 1502, ca 1, fz), (jks, 145, 1502, ca 1, fs)]) [0, 1, 2, 3] rfl), by first | omega | (refine ⟨?_, ?_, ?_⟩ <;> (first | omega | rfl | assumption | decide | exact Or.inl rfl | exact Or.inr rfl | (simp only; omega)))⟩⟩ rfl rfl hl.1 rfl (lv_room (Nat.le_of_ble_eq_true rfl)) dX11_aimAtName_17 ⟨by rw [hRc]; show _ + 0 ≤ _; omega, by rw [hRs]; show _ + 0 ≤ _; omega⟩) hh_1.1 (fun q _ h => h) (fun q h => h) (fun r_10 u_9 t_9 H_9 locs_9 ht_9 hvm_9 hr_10 hb_9 hz_9 hk_9 hS_9 => ?_)
    rw [ht_9] at hb_9
    obtain ⟨hb_9, hbF_9⟩ := hb_9
    obtain ⟨hb_91, hb_92, hb_93, hb_94, hb_95⟩ := hb_9
    have hh_9 : jSt (dC, dI) B base G0 G0 EX11_aimAtName s.heap 0 0 [(r0, 13, 2, .ref js), (js, 6, 7, .int pv), (js, 6, 8, .int pu), (js, 6, 0, .ref wk), (js, 6, 1, .ref wi), (js, 6, 2, .ref wz), (js, 6, 5, .ref jks)] [(wk, 140, 1502, ca 1, fk), (wi, 141, 1502, ca 1, fi), (wz, 142, 1502, ca 1, fz), (jks, 145, 1502, ca 1, fs)] [(jFl, jLs dC dI ca G0 3 none)] H_9 locs_9 := ((hh_1.call hb_91 hb_92 hb_93 hb_94 hS_9 rfl (L1 := [(r0, 13, 2, .ref js), (js, 6, 7, .int pv), (js, 6, 8, .int pu), (js, 6, 0, .ref wk), (js, 6, 1, .ref wi), (js, 6, 2, .ref wz), (js, 6, 5, .ref jks)]) [0, 1, 2, 3, 4, 5, 6] rfl rfl (M1 := [(wk, 140, 1502, ca 1, fk), (wi, 141, 1502, ca 1, fi), (wz, 142, 1502, ca 1, fz), (jks, 145, 1502, ca 1, fs)]) [0, 1, 2, 3] rfl rfl (I1 := [(jFl, jLs dC dI ca G0 3 none)]) [0] rfl rfl).more hb_95)
    clear hh_1 ht_9 hvm_9 hz_9 hk_9 hS_9 hb_91 hb_92 hb_93 hb_94 hb_95
    obtain ⟨hr_10_0, hr_10_1, hr_10_2⟩ := hr_10
    refine j_ldcSw hx hb hown rstr441 dX11_aimAtName_20 ?_
    have hsz_11 := hh_9.2.2.2.2.2.1
    have htt_11 := hh_9.2.2.2.2.2.2.1
    refine W.room (fun hrc_11 hrs_11 => ?_)
    refine va_calli (A0 := jA base) (H0 := s.heap) (va_runV (As := [.int r_10, .ref str441]) (rest := []) ⟨hx, hb, hml, hown, hts⟩ (uX4_memberQ l dC dI ca base B hB hAp hB6 hB140 hB141 hB142 hB143 hB144 hB145 hB146 G0 H_9 js r_10 str441 4 pv wk wi wz jks fk fi fz fs) (cwV 2 hts (jgV (jWr_23 _ (List.mem_of_getElem? (i := 10) rfl)) (jWr_23 _ (List.mem_of_getElem? (i := 11) rfl)) (jWr_23 _ (List.mem_of_getElem? (i := 12) rfl)) (jWr_1 _ (List.mem_of_getElem? (i := 22) rfl)) (jWr_23 _ (List.mem_of_getElem? (i := 13) rfl))) rfl rfl rfl (by decide +kernel) ⟨by rw [← hR]; exact Nat.le_of_ble_eq_true rfl, by rw [← hR]; exact Nat.le_of_ble_eq_true rfl⟩) ⟨fun a U g mk q => by obtain ⟨q0, q1, q2, qK, q10, q11, q12, q13, q14, q15, q16, q17, q18⟩ := q; exact ⟨q0, q1, q2, jG.calling g mk a qK, (q10.moved (Vm.Alike.refl U.vm)), q11, q12, q13, q14, q15, q16, q17, q18⟩, hh_9.recv (C := RX4) (T := TX4) (N := 12) hB6 rfl (by decide) hg_js hK, fun U hU hW => ⟨rfl, hU, hh_9.2.1, hG.step hW hU hh_9.1, (hstr441.moved hW.alike).kept hh_9.1.2.1, hg_js, hg_wk, hg_wi, hg_wz, hg_jks, (hh_9.2.2.1.sub (L1 := [(js, 6, 7, .int pv), (js, 6, 0, .ref wk), (js, 6, 1, .ref wi), (js, 6, 2, .ref wz), (js, 6, 5, .ref jks)]) [1, 3, 4, 5, 6] rfl), (hh_9.2.2.2.2.2.2.2.1.sub (L1 := [(wk, 140, 1502, ca 1, fk), (wi, 141, 1502, ca 1, fi), (wz, 142, 1502, ca 1, fz), (jks, 145, 1502, ca 1, fs)]) [0, 1, 2, 3] rfl), by first | omega | (refine ⟨?_, ?_, ?_⟩ <;> (first | omega | rfl | assumption | decide | exact Or.inl rfl | exact Or.inr rfl | (simp only; omega)))⟩⟩ rfl rfl hl.1 rfl (lv_room (Nat.le_of_ble_eq_true rfl)) dX11_aimAtName_23 ⟨by rw [hRc]; show _ + 0 ≤ _; omega, by rw [hRs]; show _ + 0 ≤ _; omega⟩) hh_9.1 (fun q _ h => h) (fun q h => h) (fun r_12 u_11 t_11 H_11 locs_11 ht_11 hvm_11 hr_12 hb_11 hz_11 hk_11 hS_11 => ?_)
    rw [ht_11] at hb_11
    obtain ⟨hb_11, hbF_11⟩ := hb_11
    obtain ⟨hb_111, hb_112, hb_113, hb_114, hb_115⟩ := hb_11
    have hh_11 : jSt (dC, dI) B base G0 G0 EX11_aimAtName s.heap 0 0 [(r0, 13, 2, .ref js), (js, 6, 7, .int pv), (js, 6, 8, .int pu), (js, 6, 0, .ref wk), (js, 6, 1, .ref wi), (js, 6, 2, .ref wz), (js, 6, 5, .ref jks)] [(wk, 140, 1502, ca 1, fk), (wi, 141, 1502, ca 1, fi), (wz, 142, 1502, ca 1, fz), (jks, 145, 1502, ca 1, fs)] [(jFl, jLs dC dI ca G0 3 none)] H_11 locs_11 := ((hh_9.call hb_111 hb_112 hb_113 hb_114 hS_11 rfl (L1 := [(r0, 13, 2, .ref js), (js, 6, 7, .int pv), (js, 6, 8, .int pu), (js, 6, 0, .ref wk), (js, 6, 1, .ref wi), (js, 6, 2, .ref wz), (js, 6, 5, .ref jks)]) [0, 1, 2, 3, 4, 5, 6] rfl rfl (M1 := [(wk, 140, 1502, ca 1, fk), (wi, 141, 1502, ca 1, fi), (wz, 142, 1502, ca 1, fz), (jks, 145, 1502, ca 1, fs)]) [0, 1, 2, 3] rfl rfl (I1 := [(jFl, jLs dC dI ca G0 3 none)]) [0] rfl rfl).more hb_115)
    clear hh_9 ht_11 hvm_11 hz_11 hk_11 hS_11 hb_111 hb_112 hb_113 hb_114 hb_115
    obtain ⟨hr_12_0, hr_12_1, hr_12_2⟩ := hr_12
    refine lv_istore_n (lv' := [(3, .int r_12), (2, .ref ret_3), (0, .ref r0), (1, .ref r1)]) hx hb dX11_aimAtName_26 rfl hl (by decide) rfl (fun ls hl => ?_)
    refine lv_aload_n hx hb dX11_aimAtName_27 rfl (lv_at hl 1 rfl) ?_
    refine lv_ifnull hx hb dX11_aimAtName_28 ?_
    refine lv_aload_n hx hb dX11_aimAtName_31 rfl (lv_at hl 2 rfl) ?_
    refine j7_read hx hb hown hK (C := RX11) (T := TX11) (N := 19) rfl hly_13_2 hlk_28 (hh_11.at 0 rfl) dX11_aimAtName_32 ?_
    refine lv_iload_n hx hb dX11_aimAtName_35 rfl (lv_at hl 0 rfl) ?_
    have hsz_13 := hh_11.2.2.2.2.2.1
    have htt_13 := hh_11.2.2.2.2.2.2.1
    refine W.room (fun hrc_13 hrs_13 => ?_)
    refine va_calli (A0 := jA base) (H0 := s.heap) (va_runV (As := [.int r_12]) (rest := []) ⟨hx, hb, hml, hown, hts⟩ (uX4_kindOfW l dC dI ca base B hB hAp hB6 hB140 G0 H_11 js r_12 pv wk wi wz fk fi fz) (cwV 1 hts (jgV (jWr_27 _ (List.mem_of_getElem? (i := 5) rfl)) (jWr_23 _ (List.mem_of_getElem? (i := 15) rfl)) (jWr_23 _ (List.mem_of_getElem? (i := 16) rfl)) (jWr_1 _ (List.mem_of_getElem? (i := 22) rfl)) (jWr_23 _ (List.mem_of_getElem? (i := 17) rfl))) rfl rfl rfl (by decide +kernel) ⟨by rw [← hR]; exact Nat.le_of_ble_eq_true rfl, by rw [← hR]; exact Nat.le_of_ble_eq_true rfl⟩) ⟨fun a U g mk q => by obtain ⟨q0, q1, q2, qK, q10, q11, q12, q13, q14, q15, q16⟩ := q; exact ⟨q0, q1, q2, jG.calling g mk a qK, q10, q11, q12, q13, q14, q15, q16⟩, hh_11.recv (C := RX4) (T := TX4) (N := 12) hB6 rfl (by decide) hg_js hK, fun U hU hW => ⟨rfl, hU, hh_11.2.1, hG.step hW hU hh_11.1, hg_js, hg_wk, hg_wi, hg_wz, (hh_11.2.2.1.sub (L1 := [(js, 6, 7, .int pv), (js, 6, 0, .ref wk), (js, 6, 1, .ref wi), (js, 6, 2, .ref wz)]) [1, 3, 4, 5] rfl), (hh_11.2.2.2.2.2.2.2.1.sub (L1 := [(wk, 140, 1502, ca 1, fk), (wi, 141, 1502, ca 1, fi), (wz, 142, 1502, ca 1, fz)]) [0, 1, 2] rfl), by first | omega | (refine ⟨?_, ?_⟩ <;> (first | omega | rfl | assumption | decide | exact Or.inl rfl | exact Or.inr rfl | (simp only; omega)))⟩⟩ rfl rfl hl.1 rfl (lv_room (Nat.le_of_ble_eq_true rfl)) dX11_aimAtName_36 ⟨by rw [hRc]; show _ + 0 ≤ _; omega, by rw [hRs]; show _ + 0 ≤ _; omega⟩) hh_11.1 (fun q _ h => h) (fun q h => h) (fun r_14 u_13 t_13 H_13 locs_13 ht_13 hvm_13 hr_14 hb_13 hz_13 hk_13 hS_13 => ?_)
    rw [ht_13] at hb_13
    obtain ⟨hb_13, hbF_13⟩ := hb_13
    obtain ⟨hb_131, hb_132, hb_133, hb_134, hb_135⟩ := hb_13
    have hh_13 : jSt (dC, dI) B base G0 G0 EX11_aimAtName s.heap 0 0 [(r0, 13, 2, .ref js), (js, 6, 7, .int pv), (js, 6, 8, .int pu), (js, 6, 0, .ref wk), (js, 6, 1, .ref wi), (js, 6, 2, .ref wz), (js, 6, 5, .ref jks)] [(wk, 140, 1502, ca 1, fk), (wi, 141, 1502, ca 1, fi), (wz, 142, 1502, ca 1, fz), (jks, 145, 1502, ca 1, fs)] [(jFl, jLs dC dI ca G0 3 none)] H_13 locs_13 := ((hh_11.call hb_131 hb_132 hb_133 hb_134 hS_13 rfl (L1 := [(r0, 13, 2, .ref js), (js, 6, 7, .int pv), (js, 6, 8, .int pu), (js, 6, 0, .ref wk), (js, 6, 1, .ref wi), (js, 6, 2, .ref wz), (js, 6, 5, .ref jks)]) [0, 1, 2, 3, 4, 5, 6] rfl rfl (M1 := [(wk, 140, 1502, ca 1, fk), (wi, 141, 1502, ca 1, fi), (wz, 142, 1502, ca 1, fz), (jks, 145, 1502, ca 1, fs)]) [0, 1, 2, 3] rfl rfl (I1 := [(jFl, jLs dC dI ca G0 3 none)]) [0] rfl rfl).more hb_135)
    clear hh_11 ht_13 hvm_13 hz_13 hk_13 hS_13 hb_131 hb_132 hb_133 hb_134 hb_135
    refine lv_iconst (v := 3) hx hb dX11_aimAtName_39 (by decide) ?_
    refine lv_icmp_eq (tgt := 45) hx hb dX11_aimAtName_40 (by decide) (fun c_15 => ?_) (fun c_15 => ?_)
    · skip
      have c_15' : r_14.toInt = 3 := jb_eq (rfl) ((by decide)) c_15
      first | (have hr_12_2q := hr_12_2.resolve_left (by omega); clear hr_12_2) | (have hr_12_2q := hr_12_2.resolve_right (by omega); clear hr_12_2) | skip
      first | (have hr_14q := hr_14.resolve_left (by omega); clear hr_14) | (have hr_14q := hr_14.resolve_right (by omega); clear hr_14) | try clear hr_14
      have hju := hp5 r_12.toInt (by omega) (by omega) (by omega)
      refine lv_aload_n hx hb dX11_aimAtName_45 rfl (lv_at hl 2 rfl) ?_
      refine j7_read hx hb hown hK (C := RX11) (T := TX11) (N := 19) rfl hly_13_2 hlk_28 (hh_13.at 0 rfl) dX11_aimAtName_46 ?_
      refine lv_iload_n hx hb dX11_aimAtName_49 rfl (lv_at hl 0 rfl) ?_
      have hsz_16 := hh_13.2.2.2.2.2.1
      have htt_16 := hh_13.2.2.2.2.2.2.1
      refine W.room (fun hrc_16 hrs_16 => ?_)
      refine j_callx (A0 := jA base) (H0 := s.heap) (va_runV (As := [.int r_12]) (rest := []) ⟨hx, hb, hml, hown, hts⟩ (uX4_unitsOfS l dC dI ca base B hB hAp hB6 hB101 hB140 hB141 hB142 hB146 G0 H_13 js r_12 pv wk wi wz fk fi fz LC LS) (cwV 1 hts (jgV (jWr_35 _ (List.mem_of_getElem? (i := 5) rfl)) (jWr_25 _ (List.mem_of_getElem? (i := 0) rfl)) (jWr_25 _ (List.mem_of_getElem? (i := 1) rfl)) (jWr_1 _ (List.mem_of_getElem? (i := 22) rfl)) (jWr_25 _ (List.mem_of_getElem? (i := 2) rfl))) rfl rfl rfl (by decide +kernel) ⟨by rw [← hR]; exact Nat.le_of_ble_eq_true rfl, by rw [← hR]; exact Nat.le_of_ble_eq_true rfl⟩) ⟨fun a U g mk q => by obtain ⟨q0, q1, q2, qK, q10, q11, q12, q13, q14, q15, q16⟩ := q; exact ⟨q0, q1, q2, jG.calling g mk a qK, q10, q11, q12, q13, q14, q15, q16⟩, hh_13.recv (C := RX4) (T := TX4) (N := 12) hB6 rfl (by decide) hg_js hK, fun U hU hW => ⟨rfl, hU, hh_13.2.1, hG.step hW hU hh_13.1, hg_js, hg_wk, hg_wi, hg_wz, (hh_13.2.2.1.sub (L1 := [(js, 6, 7, .int pv), (js, 6, 0, .ref wk), (js, 6, 1, .ref wi), (js, 6, 2, .ref wz)]) [1, 3, 4, 5] rfl), (hh_13.2.2.2.2.2.2.2.1.sub (L1 := [(wk, 140, 1502, ca 1, fk), (wi, 141, 1502, ca 1, fi), (wz, 142, 1502, ca 1, fz)]) [0, 1, 2] rfl), (by omega), (by omega), by first | omega | (refine ⟨?_, ?_, ?_⟩ <;> (first | omega | rfl | assumption | decide | exact Or.inl rfl | exact Or.inr rfl | (simp only; omega)))⟩⟩ rfl rfl hl.1 rfl (lv_room (Nat.le_of_ble_eq_true rfl)) dX11_aimAtName_50 ⟨by rw [hRc]; omega, by rw [hRs]; omega⟩) hh_13.1 (fun q _ h => h) (fun q h => h) (fun r_17 u_16 t_16 H_16 locs_16 ht_16 hvm_16 hr_17 hb_16 hz_16 hk_16 hS_16 => ?_)
      rw [ht_16] at hb_16
      obtain ⟨m_ret_16, G_16⟩ := u_16
      simp only at hb_16
      obtain ⟨⟨hb_161, hb_162, hb_163, hb_164, hb_165, hb_166⟩, hN_16⟩ := hb_16
      have hh_16 : jSt (dC, dI) B base G0 G_16 EX11_aimAtName s.heap (0 + (1)) (0 + (m_ret_16)) [(r0, 13, 2, .ref js), (js, 6, 7, .int pv), (js, 6, 8, .int pu), (js, 6, 0, .ref wk), (js, 6, 1, .ref wi), (js, 6, 2, .ref wz), (js, 6, 5, .ref jks)] [(wk, 140, 1502, ca 1, fk), (wi, 141, 1502, ca 1, fi), (wz, 142, 1502, ca 1, fz), (jks, 145, 1502, ca 1, fs)] [(jFl, jLs dC dI ca G0 3 none)] H_16 locs_16 := (hh_13.callG hb_161 hb_162 hb_163 hb_164 hb_165 hS_16 rfl (L1 := [(r0, 13, 2, .ref js), (js, 6, 7, .int pv), (js, 6, 8, .int pu), (js, 6, 0, .ref wk), (js, 6, 1, .ref wi), (js, 6, 2, .ref wz), (js, 6, 5, .ref jks)]) [0, 1, 2, 3, 4, 5, 6] rfl rfl (M1 := [(wk, 140, 1502, ca 1, fk), (wi, 141, 1502, ca 1, fi), (wz, 142, 1502, ca 1, fz), (jks, 145, 1502, ca 1, fs)]) [0, 1, 2, 3] rfl rfl (I1 := [(jFl, jLs dC dI ca G0 3 none)]) [0] rfl rfl).more hb_166
      have hNn_16 : (jNk [0, 1, 2, 3, 4, 5, 6, 7, 8, 9, 10, 11, 12, 13, 14, 15, 16]) G0 G_16 := (jNk.rf).tr hN_16
      have hg_18 := hb_162 _ _ hg_ret_3
      have hg_19 := hb_162 _ _ hg_r0
      have hg_20 := hb_162 _ _ hg_r1
      have hg_21 := hb_162 _ _ hg_js
      have hg_22 := hb_162 _ _ hg_wk
      have hg_23 := hb_162 _ _ hg_wi
      have hg_24 := hb_162 _ _ hg_wz
      have hg_25 := hb_162 _ _ hg_jks
      have hd_26 := jLs.grow (hh_16.iv 0 rfl) hb_162 hN_16 (by decide)
      have hh_27 := hh_16.sub (L1 := [(r0, 13, 2, .ref js), (js, 6, 7, .int pv), (js, 6, 8, .int pu), (js, 6, 0, .ref wk), (js, 6, 1, .ref wi), (js, 6, 2, .ref wz), (js, 6, 5, .ref jks)]) [0, 1, 2, 3, 4, 5, 6] rfl (M1 := [(wk, 140, 1502, ca 1, fk), (wi, 141, 1502, ca 1, fi), (wz, 142, 1502, ca 1, fz), (jks, 145, 1502, ca 1, fs)]) [0, 1, 2, 3] rfl (I1 := []) [] rfl
      clear hh_16
      have hh_28 := hh_27.addI (jLs.ie hd_26)
      clear hh_27
      obtain ⟨hr_17, hr_17n, hr_17p⟩ := hr_17
      try simp only at hr_17p
      obtain ⟨hr_17p_0, hr_17p_1⟩ := hr_17p
      obtain ⟨ret_29, rfl, hg_ret_29⟩ := hr_17
      have hsy_16 : s.heap.size ≤ ret_29 := Nat.le_trans hh_13.1.1 hr_17n.le
      refine lv_astore (lv' := [(4, .ref ret_29), (3, .int r_12), (2, .ref ret_3), (0, .ref r0), (1, .ref r1)]) hx hb dX11_aimAtName_53 hl (by decide) rfl (fun ls hl => ?_)
      refine lv_aload_n hx hb dX11_aimAtName_55 rfl (lv_at hl 4 rfl) ?_
      refine lv_aload_n hx hb dX11_aimAtName_56 rfl (lv_at hl 2 rfl) ?_
      refine j7_put hx hb hown hK hh_28 hB hAp hB10 (C := RX8) (T := TX8) (N := 5) rfl (by decide) hg_20 (i := 1) (by decide) hly_10_1 rfl hlk_432 rfl (ty := (.object "ProofServer$Document")) (v := .ref ret_3) (by decide +kernel) rfl rfl (Or.inr ⟨_, rfl, hg_18⟩) rfl (L1 := [(r0, 13, 2, .ref js), (js, 6, 7, .int pv), (js, 6, 8, .int pu), (js, 6, 0, .ref wk), (js, 6, 1, .ref wi), (js, 6, 2, .ref wz), (js, 6, 5, .ref jks)]) [0, 1, 2, 3, 4, 5, 6] rfl rfl rfl dX11_aimAtName_57 (fun H_30 locs_30 hh_30 => ?_)
      clear hh_28
      refine lv_aload_n hx hb dX11_aimAtName_60 rfl (lv_at hl 4 rfl) ?_
      refine lv_aload_n hx hb dX11_aimAtName_61 rfl (lv_at hl 2 rfl) ?_
      obtain ⟨v_31, hv_31, hh_32⟩ := hh_30.pin (C := RX1) (T := TX1) (N := 17) hB3 rfl (by decide) hg_18 (i := 4) (by decide) rfl
      clear hh_30
      obtain ⟨sentences_33, rfl, hlosentences_33, hhisentences_33⟩ := hv_31
      refine j7_read hx hb hown hK (C := RX1) (T := TX1) (N := 17) rfl hly_3_4 hlk_168 (hh_32.at 0 rfl) dX11_aimAtName_62 ?_
      refine j7_put hx hb hown hK hh_32 hB hAp hB10 (C := RX8) (T := TX8) (N := 5) rfl (by decide) hg_20 (i := 2) (by decide) hly_10_2 rfl hlk_438 rfl (ty := .int) (v := .int sentences_33) (by decide +kernel) rfl rfl (⟨_, rfl⟩) rfl (L1 := [(ret_3, 3, 4, .int sentences_33), (r1, 10, 1, .ref ret_3), (r0, 13, 2, .ref js), (js, 6, 7, .int pv), (js, 6, 8, .int pu), (js, 6, 0, .ref wk), (js, 6, 1, .ref wi), (js, 6, 2, .ref wz), (js, 6, 5, .ref jks)]) [0, 1, 2, 3, 4, 5, 6, 7, 8] rfl rfl rfl dX11_aimAtName_65 (fun H_34 locs_34 hh_34 => ?_)
      clear hh_32
      refine lv_aload_n hx hb dX11_aimAtName_68 rfl (lv_at hl 4 rfl) ?_
      refine lv_iconst (v := 1) hx hb dX11_aimAtName_69 (by decide) ?_
      refine j7_put hx hb hown hK hh_34 hB hAp hB10 (C := RX8) (T := TX8) (N := 5) rfl (by decide) hg_20 (i := 3) (by decide) hly_10_3 rfl hlk_443 rfl (ty := .boolean) (v := .int 1) (by decide +kernel) (jb_nz (Or.inr rfl)) (jb_fz (Or.inr rfl)) (⟨_, rfl, (Or.inr rfl)⟩) rfl (L1 := [(r1, 10, 2, .int sentences_33), (ret_3, 3, 4, .int sentences_33), (r1, 10, 1, .ref ret_3), (r0, 13, 2, .ref js), (js, 6, 7, .int pv), (js, 6, 8, .int pu), (js, 6, 0, .ref wk), (js, 6, 1, .ref wi), (js, 6, 2, .ref wz), (js, 6, 5, .ref jks)]) [0, 1, 2, 3, 4, 5, 6, 7, 8, 9] rfl rfl rfl dX11_aimAtName_70 (fun H_35 locs_35 hh_35 => ?_)
      clear hh_34
      refine lv_aload_n hx hb dX11_aimAtName_73 rfl (lv_at hl 4 rfl) ?_
      refine lv_aload_n hx hb dX11_aimAtName_74 rfl (lv_at hl 3 rfl) ?_
      obtain ⟨v_36, hv_36, hh_37⟩ := hh_35.pin (C := RX11) (T := TX11) (N := 19) hB13 rfl (by decide) hg_19 (i := 5) (by decide) rfl
      clear hh_35
      obtain ⟨kernel_38, rfl, hg_kernel_38⟩ := hv_36
      refine j7_read hx hb hown hK (C := RX11) (T := TX11) (N := 19) rfl hly_13_5 hlk_41 (hh_37.at 0 rfl) dX11_aimAtName_75 ?_
      obtain ⟨v_39, hv_39, hh_40⟩ := hh_37.pin (C := RX5) (T := TX5) (N := 11) hB7 rfl (by decide) hg_kernel_38 (i := 0) (by decide) rfl
      clear hh_37
      obtain ⟨names_41, rfl, hg_names_41⟩ := hv_39
      refine j7_read hx hb hown hK (C := RX5) (T := TX5) (N := 11) rfl hly_7_0 hlk_47 (hh_40.at 0 rfl) dX11_aimAtName_78 ?_
      refine lv_aload hx hb dX11_aimAtName_81 (lv_at hl 0 rfl) ?_
      refine lv_iconst (v := 0) hx hb dX11_aimAtName_83 (by decide) ?_
      refine lv_aload hx hb dX11_aimAtName_84 (lv_at hl 0 rfl) ?_
      refine j7_len hx hb hK hh_40 hB101 1 rfl (by decide) hg_ret_29 (by omega) dX11_aimAtName_86 (fun z_42 hz_42 => ?_)
      refine lv_iconst (v := 0) hx hb dX11_aimAtName_87 (by decide) ?_
      obtain ⟨v_45, hv_45, hh_46⟩ := hh_40.pin (C := RX6) (T := TX6) (N := 4) hB8 rfl (by decide) hg_names_41 (i := 0) (by decide) rfl
      obtain ⟨stems_47, rfl, hg_stems_47⟩ := hv_45
      obtain ⟨v_48, hv_48, hh_49⟩ := hh_46.pin (C := RX6) (T := TX6) (N := 4) hB8 rfl (by decide) hg_names_41 (i := 1) (by decide) rfl
      obtain ⟨primes_50, rfl, hg_primes_50⟩ := hv_48
      obtain ⟨v_51, hv_51, hh_52⟩ := hh_49.pin (C := RX6) (T := TX6) (N := 4) hB8 rfl (by decide) hg_names_41 (i := 2) (by decide) rfl
      obtain ⟨slots_53, rfl, hg_slots_53⟩ := hv_51
      have hsz_43 := hh_52.2.2.2.2.2.1
      have htt_43 := hh_52.2.2.2.2.2.2.1
      refine W.room (fun hrc_43 hrs_43 => ?_)
      refine va_calli (A0 := jA base) (H0 := s.heap) (va_runV (As := [.ref ret_29, .int 0, .int z_42, .int 0]) (rest := [.ref r1]) ⟨hx, hb, hml, hown, hts⟩ (uX6_numberOfB l dC dI ca base B hB hAp hB8 hB101 hB102 hB132 hB133 G_16 H_35 names_41 ret_29 0 z_42 0 m_ret_16 stems_47 primes_50 slots_53) (cwV 4 hts (jgV (jWr_35 _ (List.mem_of_getElem? (i := 6) rfl)) (jWr_7 _ (List.mem_of_getElem? (i := 14) rfl)) (jWr_7 _ (List.mem_of_getElem? (i := 15) rfl)) (jWr_4 _ (List.mem_of_getElem? (i := 10) rfl)) (jWr_7 _ (List.mem_of_getElem? (i := 16) rfl))) rfl rfl rfl (by decide +kernel) ⟨by rw [← hR]; exact Nat.le_of_ble_eq_true rfl, by rw [← hR]; exact Nat.le_of_ble_eq_true rfl⟩) ⟨fun a U g mk q => by obtain ⟨q0, q1, q2, qK, q10, q11, q12, q13, q14, q15, q16⟩ := q; exact ⟨q0, q1, q2, jG.calling g mk a qK, q10, q11, q12, q13, q14, q15, q16⟩, hh_52.recv (C := RX6) (T := TX6) (N := 4) hB8 rfl (by decide) hg_names_41 hK, fun U hU hW => ⟨rfl, hU, hh_52.2.1, hG.step hW hU hh_52.1, hg_names_41, hg_ret_29, hg_stems_47, hg_primes_50, hg_slots_53, (hh_52.2.2.1.sub (L1 := [(names_41, 8, 0, .ref stems_47), (names_41, 8, 1, .ref primes_50), (names_41, 8, 2, .ref slots_53)]) [2, 1, 0] rfl), by first | omega | rfl | assumption | decide | exact Or.inl rfl | exact Or.inr rfl | (simp only; omega)⟩⟩ rfl rfl hl.1 rfl (lv_room (Nat.le_of_ble_eq_true rfl)) dX11_aimAtName_88 ⟨by rw [hRc]; show _ + 0 ≤ _; omega, by rw [hRs]; show _ + 0 ≤ _; omega⟩) hh_52.1 (fun q _ h => h) (fun q h => h) (fun r_44 u_43 t_43 H_43 locs_43 ht_43 hvm_43 hr_44 hb_43 hz_43 hk_43 hS_43 => ?_)
      rw [ht_43] at hb_43
      obtain ⟨hb_43, hbF_43⟩ := hb_43
      obtain ⟨hb_431, hb_432, hb_433, hb_434, hb_435⟩ := hb_43
      have hh_43 : jSt (dC, dI) B base G0 G_16 EX11_aimAtName s.heap (0 + (1)) (0 + (m_ret_16)) [(names_41, 8, 2, .ref slots_53), (names_41, 8, 1, .ref primes_50), (names_41, 8, 0, .ref stems_47), (kernel_38, 7, 0, .ref names_41), (r0, 13, 5, .ref kernel_38), (r1, 10, 3, .int 1), (r1, 10, 2, .int sentences_33), (ret_3, 3, 4, .int sentences_33), (r1, 10, 1, .ref ret_3), (r0, 13, 2, .ref js), (js, 6, 7, .int pv), (js, 6, 8, .int pu), (js, 6, 0, .ref wk), (js, 6, 1, .ref wi), (js, 6, 2, .ref wz), (js, 6, 5, .ref jks)] [(wk, 140, 1502, ca 1, fk), (wi, 141, 1502, ca 1, fi), (wz, 142, 1502, ca 1, fz), (jks, 145, 1502, ca 1, fs)] [(jFl, jLs dC dI ca G_16 3 none)] H_43 locs_43 := ((hh_52.call hb_431 hb_432 hb_433 hb_434 hS_43 rfl (L1 := [(names_41, 8, 2, .ref slots_53), (names_41, 8, 1, .ref primes_50), (names_41, 8, 0, .ref stems_47), (kernel_38, 7, 0, .ref names_41), (r0, 13, 5, .ref kernel_38), (r1, 10, 3, .int 1), (r1, 10, 2, .int sentences_33), (ret_3, 3, 4, .int sentences_33), (r1, 10, 1, .ref ret_3), (r0, 13, 2, .ref js), (js, 6, 7, .int pv), (js, 6, 8, .int pu), (js, 6, 0, .ref wk), (js, 6, 1, .ref wi), (js, 6, 2, .ref wz), (js, 6, 5, .ref jks)]) [0, 1, 2, 3, 4, 5, 6, 7, 8, 9, 10, 11, 12, 13, 14, 15] rfl rfl (M1 := [(wk, 140, 1502, ca 1, fk), (wi, 141, 1502, ca 1, fi), (wz, 142, 1502, ca 1, fz), (jks, 145, 1502, ca 1, fs)]) [0, 1, 2, 3] rfl rfl (I1 := [(jFl, jLs dC dI ca G_16 3 none)]) [0] rfl rfl).more hb_435)
      clear hh_52 ht_43 hvm_43 hz_43 hk_43 hS_43 hb_431 hb_432 hb_433 hb_434 hb_435
      obtain ⟨hr_44_0, hr_44_1⟩ := hr_44
      refine j7_put hx hb hown hK hh_43 hB hAp hB10 (C := RX8) (T := TX8) (N := 5) rfl (by decide) hg_20 (i := 4) (by decide) hly_10_4 rfl hlk_451 rfl (ty := .int) (v := .int r_44) (by decide +kernel) rfl rfl (⟨_, rfl⟩) rfl (L1 := [(names_41, 8, 2, .ref slots_53), (names_41, 8, 1, .ref primes_50), (names_41, 8, 0, .ref stems_47), (kernel_38, 7, 0, .ref names_41), (r0, 13, 5, .ref kernel_38), (r1, 10, 3, .int 1), (r1, 10, 2, .int sentences_33), (ret_3, 3, 4, .int sentences_33), (r1, 10, 1, .ref ret_3), (r0, 13, 2, .ref js), (js, 6, 7, .int pv), (js, 6, 8, .int pu), (js, 6, 0, .ref wk), (js, 6, 1, .ref wi), (js, 6, 2, .ref wz), (js, 6, 5, .ref jks)]) [0, 1, 2, 3, 4, 5, 6, 7, 8, 9, 10, 11, 12, 13, 14, 15] rfl rfl rfl dX11_aimAtName_91 (fun H_54 locs_54 hh_54 => ?_)
      clear hh_43
      refine lv_iconst (v := 1) hx hb dX11_aimAtName_94 (by decide) ?_
      have hsz_55 := hh_54.2.2.2.2.2.1
      have htt_55 := hh_54.2.2.2.2.2.2.1
      refine W.room (fun hrc_55 hrs_55 => ?_)
      refine W.widen (k := LC - s.heap.size) (n := LS - jTot s.heap) (by omega) (by omega) ?_
      rw [hQ]
      exact W.zret (v := 1) hx hb hr (jb_nz (Or.inr rfl)) (fun t ht hW => ⟨⟨1, G_16, rfl, ⟨(Or.inr rfl), trivial⟩, ⟨hh_54.ra (by first | omega | (simp only; omega)) (by first | omega | (simp only; omega)) (M1 := []) [] rfl ht, hNn_16, by rw [ht]; exact hh_54.2.2.2.2.2.2.2.2.sub (L1 := [(jFl, jLs dC dI ca G_16 3 none)]) [0] rfl⟩⟩, by rw [ht]; try exact hh_54.1.1, fun q h9 hq => by rw [ht]; try exact hh_54.1.2.1 q h9 hq⟩) hh_54.1.2.2 dX11_aimAtName_95
    · skip
      have c_15' : r_14.toInt ≠ 3 := jb_eq_n (rfl) ((by decide)) c_15
      try clear hr_14
      refine lv_iconst (v := 0) hx hb dX11_aimAtName_43 (by decide) ?_
      have hsz_56 := hh_13.2.2.2.2.2.1
      have htt_56 := hh_13.2.2.2.2.2.2.1
      refine W.room (fun hrc_56 hrs_56 => ?_)
      refine W.widen (k := LC - s.heap.size) (n := LS - jTot s.heap) (by omega) (by omega) ?_
      rw [hQ]
      exact W.zret (v := 0) hx hb hr (jb_nz (Or.inl rfl)) (fun t ht hW => ⟨⟨0, G0, rfl, ⟨(Or.inl rfl), trivial⟩, ⟨hh_13.ra (by first | omega | (simp only; omega)) (by first | omega | (simp only; omega)) (M1 := []) [] rfl ht, jNk.rf, by rw [ht]; exact hh_13.2.2.2.2.2.2.2.2.sub (L1 := [(jFl, jLs dC dI ca G0 3 none)]) [0] rfl⟩⟩, by rw [ht]; try exact hh_13.1.1, fun q h9 hq => by rw [ht]; try exact hh_13.1.2.1 q h9 hq⟩) hh_13.1.2.2 dX11_aimAtName_44
set_option maxHeartbeats 4000000 in
set_option maxRecDepth 20000 in
theorem uX11_cancelRequest (l : Launch) (dC : Nat → ClassId) (dI : Nat → Nat → Nat) (ca : Nat → ClassId) (base : Nat) (B : jF) (hB : jBok B) (hAp : jAp (dC, dI)) (hB1 : ∀ n G a H, B 1 n G a H ↔ jOb (dC, dI) 1 3 (F1 n G) a H) (hB2 : ∀ n G a H, B 2 n G a H ↔ jOb (dC, dI) 2 2 (F2 n G) a H) (hB3 : ∀ n G a H, B 3 n G a H ↔ jOb (dC, dI) 3 17 (F3 n G) a H) (hB4 : ∀ n G a H, B 4 n G a H ↔ jOb (dC, dI) 4 12 (F4 n G) a H) (hB6 : ∀ n G a H, B 6 n G a H ↔ jOb (dC, dI) 6 12 (F6 n G) a H) (hB10 : ∀ n G a H, B 10 n G a H ↔ jOb (dC, dI) 10 5 (F10 n G) a H) (hB13 : ∀ n G a H, B 13 n G a H ↔ jOb (dC, dI) 13 19 (F13 n G) a H) (hB101 : ∀ n G a H, B 101 n G a H ↔ jAr (dC, dI) (ca 1) (fun j z => True) n a H) (hB140 : ∀ n G a H, B 140 n G a H ↔ jAr (dC, dI) (ca 1) (fun j z => True) n a H) (hB141 : ∀ n G a H, B 141 n G a H ↔ jAr (dC, dI) (ca 1) (fun j z => True) n a H) (hB142 : ∀ n G a H, B 142 n G a H ↔ jAr (dC, dI) (ca 1) (fun j z => True) n a H) (hB143 : ∀ n G a H, B 143 n G a H ↔ jAr (dC, dI) (ca 1) (fun j z => True) n a H) (hB144 : ∀ n G a H, B 144 n G a H ↔ jAr (dC, dI) (ca 1) (fun j z => 0 ≤ z.toInt ∧ z.toInt ≤ 3000) n a H) (hB145 : ∀ n G a H, B 145 n G a H ↔ jAr (dC, dI) (ca 1) (fun j z => True) n a H) (hB146 : ∀ n G a H, B 146 n G a H ↔ jAr (dC, dI) (ca 1) (fun j z => True) n a H) (hB196 : ∀ n G a H, B 196 n G a H ↔ jAr (dC, dI) (ca 0) (fun j z => jBf j z) n a H) (hB222 : ∀ n G a H, B 222 n G a H ↔ jAq (dC, dI) (ca 9) (jQn 10 0) n G a H) (G0 : jT) (H0 : Heap) (r0 : Nat) (bo : Nat) (pc : Int32) (pa : Nat) (n_pa : Nat) (ou : Nat) (js : Nat) (pv : Int32) (pu : Int32) (wk : Nat) (wi : Nat) (wz : Nat) (jks : Nat) (fk : Nat → Int32) (fi : Nat → Int32) (fz : Nat → Int32) (fs : Nat → Int32) (LC LS : Nat) : Met l yX11_cancelRequest (jw yX11_cancelRequest cX11_cancelRequest 3 none) ({ frames := 7, cells := LC - H0.size, slots := LS - jTot H0, locals := 214 }) (va_Pc [.ref r0] (fun U => U.heap = H0 ∧ jX B base G0 [] H0 ∧ jG dC dI ca base U ∧ jK5 dC dI ca U ∧ jK7 dC dI ca base U ∧ G0 r0 = some (13, 0) ∧ G0 bo = some (2, 0) ∧ G0 pa = some (196, n_pa) ∧ G0 ou = some (2, 20000) ∧ G0 js = some (6, 0) ∧ G0 wk = some (140, 1502) ∧ G0 wi = some (141, 1502) ∧ G0 wz = some (142, 1502) ∧ G0 jks = some (145, 1502) ∧ jP (dC, dI) G0 H0 [(r0, 13, 4, .ref bo), (bo, 2, 1, .int pc), (bo, 2, 0, .ref pa), (r0, 13, 3, .ref ou), (r0, 13, 2, .ref js), (js, 6, 7, .int pv), (js, 6, 8, .int pu), (js, 6, 0, .ref wk), (js, 6, 1, .ref wi), (js, 6, 2, .ref wz), (js, 6, 5, .ref jks)] ∧ jMc (dC, dI) G0 H0 [(wk, 140, 1502, ca 1, fk), (wi, 141, 1502, ca 1, fi), (wz, 142, 1502, ca 1, fz), (jks, 145, 1502, ca 1, fs)] ∧ jIs (dC, dI) G0 H0 [(jFy, jYb dC dI G0), (jFl, jLs dC dI ca G0 3 none)] ∧ H0.size + (1048576 - n_pa) / 16 + 20 ≤ LC ∧ jTot H0 + 2 * (1048576 - n_pa) + 3400 ≤ LS ∧ 0 ≤ pc.toInt ∧ pc.toInt ≤ n_pa ∧ 16 ≤ n_pa ∧ n_pa ≤ 1048576 ∧ jPw n_pa ∧ 0 ≤ pv.toInt ∧ pv.toInt ≤ 1502 ∧ 0 ≤ pu.toInt ∧ pu.toInt ≤ 3000 ∧ jJq fk fi fz pv.toInt ∧ jJu fk fz pv.toInt pu.toInt)) (va_Qv (S := Int32 × Nat × Nat × jT) (fun u => 0 ≤ u.1.toInt ∧ u.1.toInt ≤ u.2.2.1 ∧ n_pa ≤ u.2.2.1 ∧ u.2.2.1 ≤ 1048576 ∧ jPw u.2.2.1) (fun u t => jRa (dC, dI) B base G0 u.2.2.2 EX11_cancelRequest H0 ((u.2.2.1 - n_pa) / 16 + 11) (2 * (u.2.2.1 - n_pa) + 267) [(bo, 2, 1, .int u.1), (bo, 2, 0, .ref u.2.1)] t.heap ∧ u.2.2.2 u.2.1 = some (196, u.2.2.1) ∧ (jNk [0, 1, 3, 4, 5, 6, 7, 8, 9, 11, 12, 13, 14, 15, 16]) G0 u.2.2.2 ∧ jOl (dC, dI) G0 2 [bo, ou] H0 t.heap ∧ jIs (dC, dI) u.2.2.2 t.heap [(jFy, jYb dC dI u.2.2.2), (jFl, jLs dC dI ca u.2.2.2 3 none)]) (jA base)) (LC - H0.size) (LS - jTot H0) (jA base) := by
  refine Met.ofW (cc := cX11_cancelRequest) (maxL := 3) (ret := none) (by decide) rfl ?_
  intro p e s m args below meth c s₁ Bd hml hv
  obtain ⟨rfl, hH0, hX, hG, hK5, hK7, hg_r0, hg_bo, hg_pa, hg_ou, hg_js, hg_wk, hg_wi, hg_wz, hg_jks, hP0, hM0, hI0, hLC0, hLS0, hp0, hp1, hp2, hp3, hp4, hp5, hp6, hp7, hp8, hp9, hp10⟩ := hv
  have hK := hG.1
  have hx := Bd.exec
  have hb := Bd.bytes
  have hr := Bd.returns
  have hts := atoms_spec (ws := (jw yX11_cancelRequest cX11_cancelRequest 3 none)) Bd.pre
  have htw : ∀ w ∈ jWl, w.before _ s = true := fun w h => hts w (List.mem_cons_of_mem _ h)
  have hown : s.vm.findClass RX11 = some m.cls := findClass_of_methodNamed Bd.named
  have hlocks := Bd.notSynchronized
  obtain ⟨Q, hQ⟩ : ∃ Q, Q = MQ below (va_Qv (S := Int32 × Nat × Nat × jT) (fun u => 0 ≤ u.1.toInt ∧ u.1.toInt ≤ u.2.2.1 ∧ n_pa ≤ u.2.2.1 ∧ u.2.2.1 ≤ 1048576 ∧ jPw u.2.2.1) (fun u t => jRa (dC, dI) B base G0 u.2.2.2 EX11_cancelRequest H0 ((u.2.2.1 - n_pa) / 16 + 11) (2 * (u.2.2.1 - n_pa) + 267) [(bo, 2, 1, .int u.1), (bo, 2, 0, .ref u.2.1)] t.heap ∧ u.2.2.2 u.2.1 = some (196, u.2.2.1) ∧ (jNk [0, 1, 3, 4, 5, 6, 7, 8, 9, 11, 12, 13, 14, 15, 16]) G0 u.2.2.2 ∧ jOl (dC, dI) G0 2 [bo, ou] H0 t.heap ∧ jIs (dC, dI) u.2.2.2 t.heap [(jFy, jYb dC dI u.2.2.2), (jFl, jLs dC dI ca u.2.2.2 3 none)]) (jA base)) ([.ref r0] : List Value).toArray s (LC - H0.size) (LS - jTot H0) (jA base) := ⟨_, rfl⟩
  rw [← hQ]
  have hl := lv_entry ([.ref r0]) (n := 3) (Nat.le_of_ble_eq_true rfl)
  rw [lg_entry_eq]
  generalize (lg_sl ([.ref r0]) ++ List.replicate (3 - (lg_sl ([.ref r0])).length) Slot.unset).toArray = ls at hl ⊢
  have hl : lv_has ls 3 [(0, .ref r0)] := hl
  generalize hR : (headSpec (jw yX11_cancelRequest cX11_cancelRequest 3 none) ({ frames := 7, cells := LC - H0.size, slots := LS - jTot H0, locals := 214 })).room = R
  subst hH0
  have hh : jSt (dC, dI) B base G0 G0 EX11_cancelRequest s.heap 0 0 [(r0, 13, 4, .ref bo), (bo, 2, 1, .int pc), (bo, 2, 0, .ref pa), (r0, 13, 3, .ref ou), (r0, 13, 2, .ref js), (js, 6, 7, .int pv), (js, 6, 8, .int pu), (js, 6, 0, .ref wk), (js, 6, 1, .ref wi), (js, 6, 2, .ref wz), (js, 6, 5, .ref jks)] [(wk, 140, 1502, ca 1, fk), (wi, 141, 1502, ca 1, fi), (wz, 142, 1502, ca 1, fz), (jks, 145, 1502, ca 1, fs)] [(jFy, jYb dC dI G0), (jFl, jLs dC dI ca G0 3 none)] s.heap [] := jSt.start hX hP0 hM0 hI0
  clear hX hP0
  have hkm32800 : ((-32800) : Int32).toInt = (-32800) := by decide
  have hk0 : (0 : Int32).toInt = 0 := by decide
  have hk1 : (1 : Int32).toInt = 1 := by decide
  have hly_13_2 := htw (u_lay RX11 TX11 2) (jWc_wsX110 _ (u_in_lay (by decide)))
  have hly_13_8 := htw (u_lay RX11 TX11 8) (jWc_wsX110 _ (u_in_lay (by decide)))
  have hlk_28 := (htw (.fieldLink RX11 28 "ProofServer" "json" "LProofServer$Json;") (jWr_1 _ (List.mem_of_getElem? (i := 23) rfl)))
  obtain ⟨str271, rstr271, hstr2710⟩ := hG.str (o := RX11) (k := 271) (tx := "params") (List.mem_of_getElem? (i := 852) (by decide +kernel))
  have hstr271 : jStr base str271 6 s s.heap := hstr2710
  obtain ⟨str259, rstr259, hstr2590⟩ := hG.str (o := RX11) (k := 259) (tx := "id") (List.mem_of_getElem? (i := 730) (by decide +kernel))
  have hstr259 : jStr base str259 2 s s.heap := hstr2590
  have hlk_65 := (htw (.fieldLink RX11 65 "ProofServer" "waiting" "Ljava/util/List;") (jWr_2 _ (List.mem_of_getElem? (i := 15) rfl)))
  have hcs_429 := htw (.constant RX11 429 (-32800)) (jWr_43 _ (List.mem_of_getElem? (i := 22) rfl))
  have hbs : base ≤ s.heap.size := Nat.le_of_lt (Nat.lt_of_le_of_lt (hh.ab hg_r0).1 (hh.ab hg_r0).2)
  have hRc : R.cells = LC - s.heap.size := by rw [← hR]; rfl
  have hRs : R.slots = LS - jTot s.heap := by rw [← hR]; rfl
  have hh_1 := hh.addI (jOl.ie (dC := dC) (dI := dI) (G0 := G0) (k := 2) (rs := [bo, ou]) (H0 := s.heap) (F := [(2, 0), (2, 1)]) (C := RX0) (T := TX0) (N := 2) rfl (by decide) hh.2.2.2.2.1 (jOl.rf))
  clear hh
  have hsz_2 := hh_1.2.2.2.2.2.1
  have htt_2 := hh_1.2.2.2.2.2.2.1
  refine j7_newo (k := 10) (C := RX8) (T := TX8) (N := 5) (fs := [.null, .null, .int 0, .int 0, .int 0]) hx hb htw jWc_wsX80 (fun k => ([(.object "ProofServer$Bytes"), (.object "ProofServer$Document"), .int, .boolean, .int] : List FieldType).getD k .int) (by decide +kernel) hown (htw (.classLink RX11 115 RX8) (jWr_19 _ (List.mem_of_getElem? (i := 3) rfl))) (htw (.instantiable RX8 5) (jWr_19 _ (List.mem_of_getElem? (i := 4) rfl))) (htw (.initialized RX8) (jWr_19 _ (List.mem_of_getElem? (i := 5) rfl))) hK rfl (fun j hj => by rcases (by omega : j = 0 ∨ j = 1 ∨ j = 2 ∨ j = 3 ∨ j = 4) with rfl | rfl | rfl | rfl | rfl <;> rfl) hh_1 hB (by rw [hRc]; omega) (by rw [hRs]; omega) dX11_cancelRequest_0 (fun H_2 hraw_2 hfr_2 hnr_2 hh_2 => ?_)
  have hke_2 : jKe G0 G0 s.heap H_2 := jKe.raw hfr_2
  have hbr_2 : base ≤ s.heap.size := Nat.le_trans hbs hh_1.1.1
  have hsy_2 : s.heap.size ≤ s.heap.size := hh_1.1.1
  clear hh_1
  refine lv_dup hx hb dX11_cancelRequest_3 rfl ?_
  refine lv_aload_n hx hb dX11_cancelRequest_4 rfl (lv_at hl 0 rfl) ?_
  refine j7_read hx hb hown hK (C := RX11) (T := TX11) (N := 19) rfl hly_13_2 hlk_28 (hh_2.at 4 rfl) dX11_cancelRequest_5 ?_
  refine lv_aload_n hx hb dX11_cancelRequest_8 rfl (lv_at hl 0 rfl) ?_
  refine j7_read hx hb hown hK (C := RX11) (T := TX11) (N := 19) rfl hly_13_2 hlk_28 (hh_2.at 4 rfl) dX11_cancelRequest_9 ?_
  refine lv_aload_n hx hb dX11_cancelRequest_12 rfl (lv_at hl 0 rfl) ?_
  refine j7_read hx hb hown hK (C := RX11) (T := TX11) (N := 19) rfl hly_13_2 hlk_28 (hh_2.at 4 rfl) dX11_cancelRequest_13 ?_
  refine lv_iconst (v := 0) hx hb dX11_cancelRequest_16 (by decide) ?_
  refine j_ldcSw hx hb hown rstr271 dX11_cancelRequest_17 ?_
  have hsz_3 := hh_2.2.2.2.2.2.1
  have htt_3 := hh_2.2.2.2.2.2.2.1
  refine W.room (fun hrc_3 hrs_3 => ?_)
  refine va_calli (A0 := jA base) (H0 := s.heap) (va_runV (As := [.int 0, .ref str271]) (rest := [.ref js, .ref js, .ref s.heap.size, .ref s.heap.size]) ⟨hx, hb, hml, hown, hts⟩ (uX4_memberQ l dC dI ca base B hB hAp hB6 hB140 hB141 hB142 hB143 hB144 hB145 hB146 G0 H_2 js 0 str271 6 pv wk wi wz jks fk fi fz fs) (cwV 2 hts (jgV (jWr_23 _ (List.mem_of_getElem? (i := 10) rfl)) (jWr_23 _ (List.mem_of_getElem? (i := 11) rfl)) (jWr_23 _ (List.mem_of_getElem? (i := 12) rfl)) (jWr_1 _ (List.mem_of_getElem? (i := 22) rfl)) (jWr_23 _ (List.mem_of_getElem? (i := 13) rfl))) rfl rfl rfl (by decide +kernel) ⟨by rw [← hR]; exact Nat.le_of_ble_eq_true rfl, by rw [← hR]; exact Nat.le_of_ble_eq_true rfl⟩) ⟨fun a U g mk q => by obtain ⟨q0, q1, q2, qK, q10, q11, q12, q13, q14, q15, q16, q17, q18⟩ := q; exact ⟨q0, q1, q2, jG.calling g mk a qK, (q10.moved (Vm.Alike.refl U.vm)), q11, q12, q13, q14, q15, q16, q17, q18⟩, hh_2.recv (C := RX4) (T := TX4) (N := 12) hB6 rfl (by decide) hg_js hK, fun U hU hW => ⟨rfl, hU, hh_2.2.1, hG.step hW hU hh_2.1, (hstr271.moved hW.alike).kept hh_2.1.2.1, hg_js, hg_wk, hg_wi, hg_wz, hg_jks, (hh_2.2.2.1.sub (L1 := [(js, 6, 7, .int pv), (js, 6, 0, .ref wk), (js, 6, 1, .ref wi), (js, 6, 2, .ref wz), (js, 6, 5, .ref jks)]) [5, 7, 8, 9, 10] rfl), (hh_2.2.2.2.2.2.2.2.1.sub (L1 := [(wk, 140, 1502, ca 1, fk), (wi, 141, 1502, ca 1, fi), (wz, 142, 1502, ca 1, fz), (jks, 145, 1502, ca 1, fs)]) [0, 1, 2, 3] rfl), ⟨(by first | omega | rfl | assumption | fail), (by first | omega | rfl | assumption | fail), (by first | omega | rfl | assumption | fail)⟩⟩⟩ rfl rfl hl.1 rfl (lv_room (Nat.le_of_ble_eq_true rfl)) dX11_cancelRequest_20 ⟨by rw [hRc]; show _ + 0 ≤ _; omega, by rw [hRs]; show _ + 0 ≤ _; omega⟩) hh_2.1 (fun q _ h => h) (fun q h => h) (fun r_4 u_3 t_3 H_3 locs_3 ht_3 hvm_3 hr_4 hb_3 hz_3 hk_3 hS_3 => ?_)
  rw [ht_3] at hb_3
  obtain ⟨hb_3, hbF_3⟩ := hb_3
  obtain ⟨hb_31, hb_32, hb_33, hb_34, hb_35⟩ := hb_3
  have hh_3 : jSt (dC, dI) B base G0 G0 EX11_cancelRequest s.heap (0 + 1) (0 + 5) [(r0, 13, 4, .ref bo), (bo, 2, 1, .int pc), (bo, 2, 0, .ref pa), (r0, 13, 3, .ref ou), (r0, 13, 2, .ref js), (js, 6, 7, .int pv), (js, 6, 8, .int pu), (js, 6, 0, .ref wk), (js, 6, 1, .ref wi), (js, 6, 2, .ref wz), (js, 6, 5, .ref jks)] [(wk, 140, 1502, ca 1, fk), (wi, 141, 1502, ca 1, fi), (wz, 142, 1502, ca 1, fz), (jks, 145, 1502, ca 1, fs)] [([(2, 0), (2, 1)], jOl (dC, dI) G0 2 [bo, ou] s.heap), (jFy, jYb dC dI G0), (jFl, jLs dC dI ca G0 3 none)] H_3 locs_3 := ((hh_2.call hb_31 hb_32 hb_33 hb_34 hS_3 rfl (L1 := [(r0, 13, 4, .ref bo), (bo, 2, 1, .int pc), (bo, 2, 0, .ref pa), (r0, 13, 3, .ref ou), (r0, 13, 2, .ref js), (js, 6, 7, .int pv), (js, 6, 8, .int pu), (js, 6, 0, .ref wk), (js, 6, 1, .ref wi), (js, 6, 2, .ref wz), (js, 6, 5, .ref jks)]) [0, 1, 2, 3, 4, 5, 6, 7, 8, 9, 10] rfl rfl (M1 := [(wk, 140, 1502, ca 1, fk), (wi, 141, 1502, ca 1, fi), (wz, 142, 1502, ca 1, fz), (jks, 145, 1502, ca 1, fs)]) [0, 1, 2, 3] rfl rfl (I1 := [([(2, 0), (2, 1)], jOl (dC, dI) G0 2 [bo, ou] s.heap), (jFy, jYb dC dI G0), (jFl, jLs dC dI ca G0 3 none)]) [0, 1, 2] rfl rfl).more hb_35)
  clear hh_2 ht_3 hvm_3 hz_3 hk_3 hS_3 hb_31 hb_32 hb_33 hb_34 hb_35
  have hraw_5 := hraw_2.kept (hbF_3 _ (by simp))
  obtain ⟨hr_4_0, hr_4_1, hr_4_2⟩ := hr_4
  refine j_ldcSw hx hb hown rstr259 dX11_cancelRequest_23 ?_
  have hsz_6 := hh_3.2.2.2.2.2.1
  have htt_6 := hh_3.2.2.2.2.2.2.1
  refine W.room (fun hrc_6 hrs_6 => ?_)
  refine va_calli (A0 := jA base) (H0 := s.heap) (va_runV (As := [.int r_4, .ref str259]) (rest := [.ref js, .ref s.heap.size, .ref s.heap.size]) ⟨hx, hb, hml, hown, hts⟩ (uX4_memberQ l dC dI ca base B hB hAp hB6 hB140 hB141 hB142 hB143 hB144 hB145 hB146 G0 H_3 js r_4 str259 2 pv wk wi wz jks fk fi fz fs) (cwV 2 hts (jgV (jWr_23 _ (List.mem_of_getElem? (i := 10) rfl)) (jWr_23 _ (List.mem_of_getElem? (i := 11) rfl)) (jWr_23 _ (List.mem_of_getElem? (i := 12) rfl)) (jWr_1 _ (List.mem_of_getElem? (i := 22) rfl)) (jWr_23 _ (List.mem_of_getElem? (i := 13) rfl))) rfl rfl rfl (by decide +kernel) ⟨by rw [← hR]; exact Nat.le_of_ble_eq_true rfl, by rw [← hR]; exact Nat.le_of_ble_eq_true rfl⟩) ⟨fun a U g mk q => by obtain ⟨q0, q1, q2, qK, q10, q11, q12, q13, q14, q15, q16, q17, q18⟩ := q; exact ⟨q0, q1, q2, jG.calling g mk a qK, (q10.moved (Vm.Alike.refl U.vm)), q11, q12, q13, q14, q15, q16, q17, q18⟩, hh_3.recv (C := RX4) (T := TX4) (N := 12) hB6 rfl (by decide) hg_js hK, fun U hU hW => ⟨rfl, hU, hh_3.2.1, hG.step hW hU hh_3.1, (hstr259.moved hW.alike).kept hh_3.1.2.1, hg_js, hg_wk, hg_wi, hg_wz, hg_jks, (hh_3.2.2.1.sub (L1 := [(js, 6, 7, .int pv), (js, 6, 0, .ref wk), (js, 6, 1, .ref wi), (js, 6, 2, .ref wz), (js, 6, 5, .ref jks)]) [5, 7, 8, 9, 10] rfl), (hh_3.2.2.2.2.2.2.2.1.sub (L1 := [(wk, 140, 1502, ca 1, fk), (wi, 141, 1502, ca 1, fi), (wz, 142, 1502, ca 1, fz), (jks, 145, 1502, ca 1, fs)]) [0, 1, 2, 3] rfl), ⟨(by first | omega | rfl | assumption | fail), (by first | omega | rfl | assumption | fail), (by first | omega | rfl | assumption | fail)⟩⟩⟩ rfl rfl hl.1 rfl (lv_room (Nat.le_of_ble_eq_true rfl)) dX11_cancelRequest_26 ⟨by rw [hRc]; show _ + 0 ≤ _; omega, by rw [hRs]; show _ + 0 ≤ _; omega⟩) hh_3.1 (fun q _ h => h) (fun q h => h) (fun r_7 u_6 t_6 H_6 locs_6 ht_6 hvm_6 hr_7 hb_6 hz_6 hk_6 hS_6 => ?_)
  rw [ht_6] at hb_6
  obtain ⟨hb_6, hbF_6⟩ := hb_6
  obtain ⟨hb_61, hb_62, hb_63, hb_64, hb_65⟩ := hb_6
  have hh_6 : jSt (dC, dI) B base G0 G0 EX11_cancelRequest s.heap (0 + 1) (0 + 5) [(r0, 13, 4, .ref bo), (bo, 2, 1, .int pc), (bo, 2, 0, .ref pa), (r0, 13, 3, .ref ou), (r0, 13, 2, .ref js), (js, 6, 7, .int pv), (js, 6, 8, .int pu), (js, 6, 0, .ref wk), (js, 6, 1, .ref wi), (js, 6, 2, .ref wz), (js, 6, 5, .ref jks)] [(wk, 140, 1502, ca 1, fk), (wi, 141, 1502, ca 1, fi), (wz, 142, 1502, ca 1, fz), (jks, 145, 1502, ca 1, fs)] [([(2, 0), (2, 1)], jOl (dC, dI) G0 2 [bo, ou] s.heap), (jFy, jYb dC dI G0), (jFl, jLs dC dI ca G0 3 none)] H_6 locs_6 := ((hh_3.call hb_61 hb_62 hb_63 hb_64 hS_6 rfl (L1 := [(r0, 13, 4, .ref bo), (bo, 2, 1, .int pc), (bo, 2, 0, .ref pa), (r0, 13, 3, .ref ou), (r0, 13, 2, .ref js), (js, 6, 7, .int pv), (js, 6, 8, .int pu), (js, 6, 0, .ref wk), (js, 6, 1, .ref wi), (js, 6, 2, .ref wz), (js, 6, 5, .ref jks)]) [0, 1, 2, 3, 4, 5, 6, 7, 8, 9, 10] rfl rfl (M1 := [(wk, 140, 1502, ca 1, fk), (wi, 141, 1502, ca 1, fi), (wz, 142, 1502, ca 1, fz), (jks, 145, 1502, ca 1, fs)]) [0, 1, 2, 3] rfl rfl (I1 := [([(2, 0), (2, 1)], jOl (dC, dI) G0 2 [bo, ou] s.heap), (jFy, jYb dC dI G0), (jFl, jLs dC dI ca G0 3 none)]) [0, 1, 2] rfl rfl).more hb_65)
  clear hh_3 ht_6 hvm_6 hz_6 hk_6 hS_6 hb_61 hb_62 hb_63 hb_64 hb_65
  have hraw_8 := hraw_5.kept (hbF_6 _ (by simp))
  obtain ⟨hr_7_0, hr_7_1, hr_7_2⟩ := hr_7
  have hsz_9 := hh_6.2.2.2.2.2.1
  have htt_9 := hh_6.2.2.2.2.2.2.1
  refine W.room (fun hrc_9 hrs_9 => ?_)
  refine va_callv (A0 := jA base) (H0 := s.heap) (va_runI (As := [.ref js, .int r_7]) (rest := [.ref s.heap.size]) ⟨hx, hb, hml, hown, hts⟩ (uX8_init l dC dI ca base B hB hAp hB2 hB6 hB10 hB101 hB140 hB141 hB142 hB146 hB196 G0 H_6 s.heap.size js r_7 pv wk wi wz fk fi fz LC LS) (cwI 2 hts (jgW (jWr_24 _ (List.mem_of_getElem? (i := 0) rfl))) rfl rfl rfl (htw (.initialized RX8) (jWr_19 _ (List.mem_of_getElem? (i := 5) rfl))) (htw (.methodLink RX11 264 yX8_init) (jWr_23 _ (List.mem_of_getElem? (i := 22) rfl))) (htw (.instanceMethod yX8_init) (jWr_23 _ (List.mem_of_getElem? (i := 23) rfl))) rfl (by decide +kernel) ⟨by rw [← hR]; exact Nat.le_of_ble_eq_true rfl, by rw [← hR]; exact Nat.le_of_ble_eq_true rfl⟩) ⟨fun a U g mk q => by obtain ⟨q0, q1, q2, qK, q10, q11, q12, q13, q14, q15, q16, q17, q18, q19, q20⟩ := q; exact ⟨q0, q1, q2, jG.calling g mk a qK, q10, q11, q12, q13, q14, q15, q16, q17, q18, q19, q20⟩, fun U hU hW => ⟨rfl, hU, hh_6.2.1, hG.step hW hU hh_6.1, hg_js, hraw_8, hnr_2, hbr_2, hg_wk, hg_wi, hg_wz, (hh_6.2.2.1.sub (L1 := [(js, 6, 7, .int pv), (js, 6, 0, .ref wk), (js, 6, 1, .ref wi), (js, 6, 2, .ref wz)]) [5, 7, 8, 9] rfl), (hh_6.2.2.2.2.2.2.2.1.sub (L1 := [(wk, 140, 1502, ca 1, fk), (wi, 141, 1502, ca 1, fi), (wz, 142, 1502, ca 1, fz)]) [0, 1, 2] rfl), (hh_6.2.2.2.2.2.2.2.2.sub (L1 := [(jFy, jYb dC dI G0)]) [1] rfl), (by omega), (by omega), ⟨(by first | omega | rfl | assumption | fail), (by first | omega | rfl | assumption | fail), (by first | assumption | fail | omega)⟩⟩⟩ rfl rfl hl.1 rfl (lv_room (Nat.le_of_ble_eq_true rfl)) dX11_cancelRequest_29 ⟨by rw [hRc]; omega, by rw [hRs]; omega⟩) hh_6.1 (fun q _ h => h) (fun q h => h) (fun u_9 t_9 H_9 locs_9 ht_9 hvm_9 hr_10 hb_9 hz_9 hk_9 hS_9 => ?_)
  rw [ht_9] at hb_9
  obtain ⟨G_9, rfl⟩ : ∃ z, z = u_9 := ⟨_, rfl⟩
  try simp only at hb_9
  obtain ⟨⟨hb_91, hb_92, hb_93, hb_94, hb_95, hb_96⟩, hN_9, hbO_9, hgc_9, hbE_9⟩ := hb_9
  have hh_9 : jSt (dC, dI) B base G0 G_9 EX11_cancelRequest s.heap ((0 + 1) + (10)) ((0 + 5) + (262)) [(r0, 13, 4, .ref bo), (r0, 13, 3, .ref ou), (r0, 13, 2, .ref js), (js, 6, 7, .int pv), (js, 6, 8, .int pu), (js, 6, 0, .ref wk), (js, 6, 1, .ref wi), (js, 6, 2, .ref wz), (js, 6, 5, .ref jks)] [(wk, 140, 1502, ca 1, fk), (wi, 141, 1502, ca 1, fi), (wz, 142, 1502, ca 1, fz), (jks, 145, 1502, ca 1, fs)] [(jFl, jLs dC dI ca G0 3 none)] H_9 locs_9 := (hh_6.callG hb_91 hb_92 hb_93 hb_94 hb_95 hS_9 rfl (L1 := [(r0, 13, 4, .ref bo), (r0, 13, 3, .ref ou), (r0, 13, 2, .ref js), (js, 6, 7, .int pv), (js, 6, 8, .int pu), (js, 6, 0, .ref wk), (js, 6, 1, .ref wi), (js, 6, 2, .ref wz), (js, 6, 5, .ref jks)]) [0, 3, 4, 5, 6, 7, 8, 9, 10] rfl rfl (M1 := [(wk, 140, 1502, ca 1, fk), (wi, 141, 1502, ca 1, fi), (wz, 142, 1502, ca 1, fz), (jks, 145, 1502, ca 1, fs)]) [0, 1, 2, 3] rfl rfl (I1 := [(jFl, jLs dC dI ca G0 3 none)]) [2] rfl rfl).more hb_96
  have hNn_9 : (jNk [0, 1, 3, 4, 5, 6, 7, 8, 9, 11, 12, 13, 14, 15, 16]) G0 G_9 := (jNk.rf).tr hN_9
  have hg_11 := hb_92 _ _ hg_r0
  have hg_12 := hb_92 _ _ hg_bo
  have hg_13 := hb_92 _ _ hg_ou
  have hg_14 := hb_92 _ _ hg_js
  have hg_15 := hb_92 _ _ hg_wk
  have hg_16 := hb_92 _ _ hg_wi
  have hg_17 := hb_92 _ _ hg_wz
  have hg_18 := hb_92 _ _ hg_jks
  have hd_19 := jLs.grow (hh_9.iv 0 rfl) hb_92 hN_9 (by decide)
  have hh_20 := hh_9.sub (L1 := [(r0, 13, 4, .ref bo), (r0, 13, 3, .ref ou), (r0, 13, 2, .ref js), (js, 6, 7, .int pv), (js, 6, 8, .int pu), (js, 6, 0, .ref wk), (js, 6, 1, .ref wi), (js, 6, 2, .ref wz), (js, 6, 5, .ref jks)]) [0, 1, 2, 3, 4, 5, 6, 7, 8] rfl (M1 := [(wk, 140, 1502, ca 1, fk), (wi, 141, 1502, ca 1, fi), (wz, 142, 1502, ca 1, fz), (jks, 145, 1502, ca 1, fs)]) [0, 1, 2, 3] rfl (I1 := []) [] rfl
  clear hh_9
  have hh_21 := hh_20.addI (jLs.ie hd_19)
  clear hh_20
  have hh_22 := hh_21.addIs hbE_9
  have hh_23 := hh_22.more (P1 := [(bo, 2, 1, .int pc), (bo, 2, 0, .ref pa)]) (jP.cons hg_12 (hbO_9 _ _ _ _ (by simp) hg_bo (hh_6.at 1 rfl)) (jP.cons hg_12 (hbO_9 _ _ _ _ (by simp) hg_bo (hh_6.at 2 rfl)) jP.nil))
  have hg_24 := hb_92 _ _ hg_pa
  have hd_25 := jOl.trL (hh_6.iv 0 rfl) hh_6.2.2.2.2.1 hbO_9 (by simp)
  have hh_26 := hh_23.addI (jOl.ie (dC := dC) (dI := dI) (G0 := G0) (k := 2) (rs := [bo, ou]) (H0 := s.heap) (F := [(2, 0), (2, 1)]) (C := RX0) (T := TX0) (N := 2) rfl (by decide) hh_23.2.2.2.2.1 (hd_25))
  clear hh_23
  try simp only at hr_10
  have hh_27 := hh_26.wk (zc1 := (n_pa - n_pa) / 16 + 11) (zs1 := 2 * (n_pa - n_pa) + 267) (by omega) (by omega)
  clear hh_26
  try clear hsz_9 htt_9 hrc_9 hrs_9
  try clear hb_94 hb_95
  refine lv_astore_n (lv' := [(1, .ref s.heap.size), (0, .ref r0)]) hx hb dX11_cancelRequest_32 rfl hl (by decide) rfl (fun ls hl => ?_)
  refine lv_iconst (v := 0) hx hb dX11_cancelRequest_33 (by decide) ?_
  refine lv_istore_n (lv' := [(2, .int 0), (1, .ref s.heap.size), (0, .ref r0)]) hx hb dX11_cancelRequest_34 rfl hl (by decide) rfl (fun ls hl => ?_)
  have L35 : ∀ (N : Nat) (v2_28 : Int32) (H_28 : Heap) (locs_28 : List Loc), jSt (dC, dI) B base G0 G_9 EX11_cancelRequest s.heap ((n_pa - n_pa) / 16 + 11) (2 * (n_pa - n_pa) + 267) [(bo, 2, 1, .int pc), (bo, 2, 0, .ref pa), (r0, 13, 4, .ref bo), (r0, 13, 3, .ref ou), (r0, 13, 2, .ref js), (js, 6, 7, .int pv), (js, 6, 8, .int pu), (js, 6, 0, .ref wk), (js, 6, 1, .ref wi), (js, 6, 2, .ref wz), (js, 6, 5, .ref jks)] [(wk, 140, 1502, ca 1, fk), (wi, 141, 1502, ca 1, fi), (wz, 142, 1502, ca 1, fz), (jks, 145, 1502, ca 1, fs)] [([(2, 0), (2, 1)], jOl (dC, dI) G0 2 [bo, ou] s.heap), (jFy, jYb dC dI G_9), (jFl, jLs dC dI ca G_9 3 none)] H_28 locs_28 → (0 ≤ v2_28.toInt ∧ v2_28.toInt ≤ 40) → (41 - v2_28.toInt : Int) < N → ∀ ls : Array Slot, lv_has ls 3 [(0, .ref r0), (1, .ref s.heap.size), (2, .int v2_28)] → W p l e R s m ([.ref r0] : List Value).toArray below meth c H_28 locs_28 ((n_pa - n_pa) / 16 + 11) (2 * (n_pa - n_pa) + 267) Q (F0 m 35 ls []) := by
    intro N
    induction N with
    | zero => intro v2_28 H_28 locs_28 hh_28  hi_28 hm; exact absurd hm (by omega)
    | succ N L35 =>
      intro v2_28 H_28 locs_28 hh_28  hi_28 hm_28 ls hl
      obtain ⟨hi_28_0, hi_28_1⟩ := hi_28
      try clear hr_4_2; try clear hr_7_2
      refine lv_iload_n hx hb dX11_cancelRequest_35 rfl (lv_at hl 2 rfl) ?_
      refine lv_aload_n hx hb dX11_cancelRequest_36 rfl (lv_at hl 0 rfl) ?_
      obtain ⟨v_29, hv_29, hh_30⟩ := hh_28.pin (C := RX11) (T := TX11) (N := 19) hB13 rfl (by decide) hg_11 (i := 8) (by decide) rfl
      clear hh_28
      obtain ⟨waiting_31, rfl, hg_waiting_31⟩ := hv_29
      refine j7_read hx hb hown hK (C := RX11) (T := TX11) (N := 19) rfl hly_13_8 hlk_65 (hh_30.at 0 rfl) dX11_cancelRequest_37 ?_
      obtain ⟨v_34, hv_34, hh_35⟩ := hh_30.pin (C := RJx4a65c) (T := TJx4a65c) (N := 3) hB1 rfl (by decide) hg_waiting_31 (i := 2) (by decide) rfl
      obtain ⟨size_36, rfl, hlosize_36, hhisize_36⟩ := hv_34
      have hsz_32 := hh_35.2.2.2.2.2.1
      have htt_32 := hh_35.2.2.2.2.2.2.1
      refine W.room (fun hrc_32 hrs_32 => ?_)
      refine va_callFi (A0 := jA base) (H0 := s.heap) (va_runF (hK.1 1 _ rfl).2 (As := []) (rest := [.int v2_28]) ⟨hx, hb, hml, hown, hts⟩ (uJx4a65c_size_8abf5 l dC dI ca base B hB hAp hB1 G_9 H_28 waiting_31 2 size_36) (va_cwF 0 hts (jgF (jWr_27 _ (List.mem_of_getElem? (i := 22) rfl)) (jWr_27 _ (List.mem_of_getElem? (i := 23) rfl)) (jWr_28 _ (List.mem_of_getElem? (i := 0) rfl)) (jWr_2 _ (List.mem_of_getElem? (i := 13) rfl)) (jWr_28 _ (List.mem_of_getElem? (i := 1) rfl))) rfl rfl rfl hK7.2.2.2.2.2.1.1 ⟨by decide, by decide, by decide +kernel⟩ ⟨by rw [← hR]; exact Nat.le_of_ble_eq_true rfl, by rw [← hR]; exact Nat.le_of_ble_eq_true rfl⟩) ⟨fun a U g mk q => by obtain ⟨q0, q1, q2, qK, q10, q11, q12⟩ := q; exact ⟨q0, q1, q2, jG.calling g mk a qK, q10, q11, q12⟩, hh_35.recv (C := RJx4a65c) (T := TJx4a65c) (N := 3) hB1 rfl (by decide) hg_waiting_31 hK, fun U hU hW => ⟨rfl, hU, hh_35.2.1, hG.step hW hU hh_35.1, hg_waiting_31, (hh_35.2.2.1.sub (L1 := [(waiting_31, 1, 2, .int size_36)]) [0] rfl), trivial⟩⟩ rfl rfl hl.1 rfl (lv_room (Nat.le_of_ble_eq_true rfl)) dX11_cancelRequest_40 ⟨by rw [hRc]; show _ + 0 ≤ _; omega, by rw [hRs]; show _ + 0 ≤ _; omega⟩) hh_35.1 (fun q _ h => h) (fun q h => h) (fun r_33 u_32 t_32 H_32 locs_32 ht_32 hvm_32 hr_33 hb_32 hz_32 hk_32 hS_32 => ?_)
      rw [ht_32] at hb_32
      obtain ⟨hb_321, hb_322, hb_323, hb_324, hb_325⟩ := hb_32
      have hh_32 : jSt (dC, dI) B base G0 G_9 EX11_cancelRequest s.heap ((n_pa - n_pa) / 16 + 11) (2 * (n_pa - n_pa) + 267) [(waiting_31, 1, 2, .int size_36), (r0, 13, 8, .ref waiting_31), (bo, 2, 1, .int pc), (bo, 2, 0, .ref pa), (r0, 13, 4, .ref bo), (r0, 13, 3, .ref ou), (r0, 13, 2, .ref js), (js, 6, 7, .int pv), (js, 6, 8, .int pu), (js, 6, 0, .ref wk), (js, 6, 1, .ref wi), (js, 6, 2, .ref wz), (js, 6, 5, .ref jks)] [(wk, 140, 1502, ca 1, fk), (wi, 141, 1502, ca 1, fi), (wz, 142, 1502, ca 1, fz), (jks, 145, 1502, ca 1, fs)] [([(2, 0), (2, 1)], jOl (dC, dI) G0 2 [bo, ou] s.heap), (jFy, jYb dC dI G_9), (jFl, jLs dC dI ca G_9 3 none)] H_32 locs_32 := ((hh_35.call hb_321 hb_322 hb_323 hb_324 hS_32 rfl (L1 := [(waiting_31, 1, 2, .int size_36), (r0, 13, 8, .ref waiting_31), (bo, 2, 1, .int pc), (bo, 2, 0, .ref pa), (r0, 13, 4, .ref bo), (r0, 13, 3, .ref ou), (r0, 13, 2, .ref js), (js, 6, 7, .int pv), (js, 6, 8, .int pu), (js, 6, 0, .ref wk), (js, 6, 1, .ref wi), (js, 6, 2, .ref wz), (js, 6, 5, .ref jks)]) [0, 1, 2, 3, 4, 5, 6, 7, 8, 9, 10, 11, 12] rfl rfl (M1 := [(wk, 140, 1502, ca 1, fk), (wi, 141, 1502, ca 1, fi), (wz, 142, 1502, ca 1, fz), (jks, 145, 1502, ca 1, fs)]) [0, 1, 2, 3] rfl rfl (I1 := [([(2, 0), (2, 1)], jOl (dC, dI) G0 2 [bo, ou] s.heap), (jFy, jYb dC dI G_9), (jFl, jLs dC dI ca G_9 3 none)]) [0, 1, 2] rfl rfl).more hb_325)
      clear hh_35 ht_32 hvm_32 hz_32 hk_32 hS_32 hb_321 hb_322 hb_323 hb_324 hb_325
      refine lv_icmp_ge (tgt := 95) hx hb dX11_cancelRequest_45 (by decide) (fun c_37 => ?_) (fun c_37 => ?_)
      · skip
        have c_37' : v2_28.toInt ≥ r_33.toInt := jb_ge (rfl) (rfl) c_37
        have hsz_38 := hh_32.2.2.2.2.2.1
        have htt_38 := hh_32.2.2.2.2.2.2.1
        refine W.room (fun hrc_38 hrs_38 => ?_)
        refine W.widen (k := LC - s.heap.size) (n := LS - jTot s.heap) (by omega) (by omega) ?_
        rw [hQ]
        exact W.vret hx hb hr (fun t ht hW => ⟨⟨(pc, pa, n_pa, G_9), rfl, by (try dsimp only); exact ⟨(by first | omega | rfl | assumption | fail), (by first | omega | rfl | assumption | fail), (by first | omega | rfl | assumption | fail), (by first | omega | rfl | assumption | fail), (by first | assumption | fail | omega)⟩, ⟨hh_32.ra (by first | omega | (simp only; omega)) (by first | omega | (simp only; omega)) (M1 := [(bo, 2, 1, .int pc), (bo, 2, 0, .ref pa)]) [2, 3] rfl ht, hg_24, hNn_9, by rw [ht]; exact hh_32.iv 0 rfl, by rw [ht]; exact hh_32.2.2.2.2.2.2.2.2.sub (L1 := [(jFy, jYb dC dI G_9), (jFl, jLs dC dI ca G_9 3 none)]) [1, 2] rfl⟩⟩, by rw [ht]; try exact hh_32.1.1, fun q h9 hq => by rw [ht]; try exact hh_32.1.2.1 q h9 hq⟩) hh_32.1.2.2 dX11_cancelRequest_95
      · skip
        have c_37' : v2_28.toInt < r_33.toInt := jb_ge_n (rfl) (rfl) c_37
        refine lv_aload_n hx hb dX11_cancelRequest_48 rfl (lv_at hl 0 rfl) ?_
        refine j7_read hx hb hown hK (C := RX11) (T := TX11) (N := 19) rfl hly_13_8 hlk_65 (hh_32.at 1 rfl) dX11_cancelRequest_49 ?_
        refine lv_iload_n hx hb dX11_cancelRequest_52 rfl (lv_at hl 2 rfl) ?_
        have hsz_39 := hh_32.2.2.2.2.2.1
        have htt_39 := hh_32.2.2.2.2.2.2.1
        refine W.room (fun hrc_39 hrs_39 => ?_)
        refine j_callFx (A0 := jA base) (H0 := s.heap) (va_runF (hK.1 1 _ rfl).2 (As := [.int v2_28]) (rest := []) ⟨hx, hb, hml, hown, hts⟩ (uJx4a65c_get_915e3L2 l dC dI ca base B hB hAp hB1 hB10 hB222 G_9 H_32 waiting_31 v2_28 size_36) (va_cwF 1 hts (jgF (jWr_28 _ (List.mem_of_getElem? (i := 3) rfl)) (jWr_28 _ (List.mem_of_getElem? (i := 4) rfl)) (jWr_28 _ (List.mem_of_getElem? (i := 5) rfl)) (jWr_2 _ (List.mem_of_getElem? (i := 13) rfl)) (jWr_28 _ (List.mem_of_getElem? (i := 6) rfl))) rfl rfl rfl hK7.2.2.2.2.2.1.2.1 ⟨by decide, by decide, by decide +kernel⟩ ⟨by rw [← hR]; exact Nat.le_of_ble_eq_true rfl, by rw [← hR]; exact Nat.le_of_ble_eq_true rfl⟩) ⟨fun a U g mk q => by obtain ⟨q0, q1, q2, qK, q10, q11, q12, q13, q14⟩ := q; exact ⟨q0, q1, q2, jG.calling g mk a qK, (jK7.calling g mk a q10), q11, q12, q13, q14⟩, hh_32.recv (C := RJx4a65c) (T := TJx4a65c) (N := 3) hB1 rfl (by decide) hg_waiting_31 hK, fun U hU hW => ⟨rfl, hU, hh_32.2.1, hG.step hW hU hh_32.1, (hK7.step hW hU hh_32.1), hg_waiting_31, (hh_32.2.2.1.sub (L1 := [(waiting_31, 1, 2, .int size_36)]) [0] rfl), (hh_32.2.2.2.2.2.2.2.2.sub (L1 := [(jFl, jLs dC dI ca G_9 3 none)]) [2] rfl), ⟨(by first | omega | rfl | assumption | fail), (by first | omega | rfl | assumption | fail)⟩⟩⟩ rfl rfl hl.1 rfl (lv_room (Nat.le_of_ble_eq_true rfl)) dX11_cancelRequest_53 ⟨by rw [hRc]; show _ + 0 ≤ _; omega, by rw [hRs]; show _ + 0 ≤ _; omega⟩) hh_32.1 (fun q _ h => h) (fun q h => h) (fun r_40 u_39 t_39 H_39 locs_39 ht_39 hvm_39 hr_40 hb_39 hz_39 hk_39 hS_39 => ?_)
        rw [ht_39] at hb_39
        obtain ⟨hb_39, hbE_39⟩ := hb_39
        obtain ⟨hb_391, hb_392, hb_393, hb_394, hb_395⟩ := hb_39
        have hh_39 : jSt (dC, dI) B base G0 G_9 EX11_cancelRequest s.heap ((n_pa - n_pa) / 16 + 11) (2 * (n_pa - n_pa) + 267) [(waiting_31, 1, 2, .int size_36), (r0, 13, 8, .ref waiting_31), (bo, 2, 1, .int pc), (bo, 2, 0, .ref pa), (r0, 13, 4, .ref bo), (r0, 13, 3, .ref ou), (r0, 13, 2, .ref js), (js, 6, 7, .int pv), (js, 6, 8, .int pu), (js, 6, 0, .ref wk), (js, 6, 1, .ref wi), (js, 6, 2, .ref wz), (js, 6, 5, .ref jks)] [(wk, 140, 1502, ca 1, fk), (wi, 141, 1502, ca 1, fi), (wz, 142, 1502, ca 1, fz), (jks, 145, 1502, ca 1, fs)] [(jFl, jLs dC dI ca G_9 3 none), ([(2, 0), (2, 1)], jOl (dC, dI) G0 2 [bo, ou] s.heap), (jFy, jYb dC dI G_9)] H_39 locs_39 := (((hh_32.call hb_391 hb_392 hb_393 hb_394 hS_39 rfl (L1 := [(waiting_31, 1, 2, .int size_36), (r0, 13, 8, .ref waiting_31), (bo, 2, 1, .int pc), (bo, 2, 0, .ref pa), (r0, 13, 4, .ref bo), (r0, 13, 3, .ref ou), (r0, 13, 2, .ref js), (js, 6, 7, .int pv), (js, 6, 8, .int pu), (js, 6, 0, .ref wk), (js, 6, 1, .ref wi), (js, 6, 2, .ref wz), (js, 6, 5, .ref jks)]) [0, 1, 2, 3, 4, 5, 6, 7, 8, 9, 10, 11, 12] rfl rfl (M1 := [(wk, 140, 1502, ca 1, fk), (wi, 141, 1502, ca 1, fi), (wz, 142, 1502, ca 1, fz), (jks, 145, 1502, ca 1, fs)]) [0, 1, 2, 3] rfl rfl (I1 := [([(2, 0), (2, 1)], jOl (dC, dI) G0 2 [bo, ou] s.heap), (jFy, jYb dC dI G_9)]) [0, 1] rfl rfl).more hb_395)).addIs hbE_39
        clear hh_32 ht_39 hvm_39 hz_39 hk_39 hS_39 hb_391 hb_392 hb_393 hb_394 hb_395
        clear  hbE_39
        obtain ⟨ret_41, rfl, hg_ret_41⟩ := hr_40
        refine va_castY hx hb hown (htw (.classLink RX11 115 "ProofServer$Request") (jWr_42 _ (List.mem_of_getElem? (i := 5) rfl))) hK7.2.2.1.2.1.2 (hh_39.recv (C := RX8) (T := TX8) (N := 5) hB10 rfl (by decide) hg_ret_41 hK) dX11_cancelRequest_58 ?_
        refine lv_aload_n hx hb dX11_cancelRequest_61 rfl (lv_at hl 1 rfl) ?_
        have hsz_42 := hh_39.2.2.2.2.2.1
        have htt_42 := hh_39.2.2.2.2.2.2.1
        refine W.room (fun hrc_42 hrs_42 => ?_)
        refine va_calli (A0 := jA base) (H0 := s.heap) (va_runV (As := [.ref s.heap.size]) (rest := []) ⟨hx, hb, hml, hown, hts⟩ (uX8_hasIdOf l dC dI ca base B hB hAp hB2 hB10 hB196 G_9 H_39 ret_41 s.heap.size) (cwV 1 hts (jgV (jWr_43 _ (List.mem_of_getElem? (i := 23) rfl)) (jWr_44 _ (List.mem_of_getElem? (i := 0) rfl)) (jWr_44 _ (List.mem_of_getElem? (i := 1) rfl)) (jWr_19 _ (List.mem_of_getElem? (i := 5) rfl)) (jWr_44 _ (List.mem_of_getElem? (i := 2) rfl))) rfl rfl rfl (by decide +kernel) ⟨by rw [← hR]; exact Nat.le_of_ble_eq_true rfl, by rw [← hR]; exact Nat.le_of_ble_eq_true rfl⟩) ⟨fun a U g mk q => by obtain ⟨q0, q1, q2, qK, q10, q11, q12, q13, q14⟩ := q; exact ⟨q0, q1, q2, jG.calling g mk a qK, q10, q11, q12, q13, q14⟩, hh_39.recv (C := RX8) (T := TX8) (N := 5) hB10 rfl (by decide) hg_ret_41 hK, fun U hU hW => ⟨rfl, hU, hh_39.2.1, hG.step hW hU hh_39.1, hgc_9, hg_ret_41, jP.nil, (hh_39.2.2.2.2.2.2.2.2.sub (L1 := [(jFy, jYb dC dI G_9)]) [2] rfl), trivial⟩⟩ rfl rfl hl.1 rfl (lv_room (Nat.le_of_ble_eq_true rfl)) dX11_cancelRequest_62 ⟨by rw [hRc]; show _ + 0 ≤ _; omega, by rw [hRs]; show _ + 0 ≤ _; omega⟩) hh_39.1 (fun q _ h => h) (fun q h => h) (fun r_43 u_42 t_42 H_42 locs_42 ht_42 hvm_42 hr_43 hb_42 hz_42 hk_42 hS_42 => ?_)
        rw [ht_42] at hb_42
        obtain ⟨hb_42, hbE_42⟩ := hb_42
        obtain ⟨hb_421, hb_422, hb_423, hb_424, hb_425⟩ := hb_42
        have hh_42 : jSt (dC, dI) B base G0 G_9 EX11_cancelRequest s.heap ((n_pa - n_pa) / 16 + 11) (2 * (n_pa - n_pa) + 267) [(waiting_31, 1, 2, .int size_36), (r0, 13, 8, .ref waiting_31), (bo, 2, 1, .int pc), (bo, 2, 0, .ref pa), (r0, 13, 4, .ref bo), (r0, 13, 3, .ref ou), (r0, 13, 2, .ref js), (js, 6, 7, .int pv), (js, 6, 8, .int pu), (js, 6, 0, .ref wk), (js, 6, 1, .ref wi), (js, 6, 2, .ref wz), (js, 6, 5, .ref jks)] [(wk, 140, 1502, ca 1, fk), (wi, 141, 1502, ca 1, fi), (wz, 142, 1502, ca 1, fz), (jks, 145, 1502, ca 1, fs)] [(jFy, jYb dC dI G_9), (jFl, jLs dC dI ca G_9 3 none), ([(2, 0), (2, 1)], jOl (dC, dI) G0 2 [bo, ou] s.heap)] H_42 locs_42 := (((hh_39.call hb_421 hb_422 hb_423 hb_424 hS_42 rfl (L1 := [(waiting_31, 1, 2, .int size_36), (r0, 13, 8, .ref waiting_31), (bo, 2, 1, .int pc), (bo, 2, 0, .ref pa), (r0, 13, 4, .ref bo), (r0, 13, 3, .ref ou), (r0, 13, 2, .ref js), (js, 6, 7, .int pv), (js, 6, 8, .int pu), (js, 6, 0, .ref wk), (js, 6, 1, .ref wi), (js, 6, 2, .ref wz), (js, 6, 5, .ref jks)]) [0, 1, 2, 3, 4, 5, 6, 7, 8, 9, 10, 11, 12] rfl rfl (M1 := [(wk, 140, 1502, ca 1, fk), (wi, 141, 1502, ca 1, fi), (wz, 142, 1502, ca 1, fz), (jks, 145, 1502, ca 1, fs)]) [0, 1, 2, 3] rfl rfl (I1 := [(jFl, jLs dC dI ca G_9 3 none), ([(2, 0), (2, 1)], jOl (dC, dI) G0 2 [bo, ou] s.heap)]) [0, 1] rfl rfl).more hb_425)).addIs hbE_42
        clear hh_39 ht_42 hvm_42 hz_42 hk_42 hS_42 hb_421 hb_422 hb_423 hb_424 hb_425
        clear  hbE_42
        obtain ⟨hr_43b, hr_43p⟩ := hr_43
        have hr_43' := jb_01 hr_43b
        refine lv_if_eq (tgt := 89) hx hb dX11_cancelRequest_65 (by decide) (fun c_44 => ?_) (fun c_44 => ?_)
        · skip
          have c_44' : r_43.toInt = 0 := jb_eq (rfl) ((by decide)) c_44
          obtain ⟨z_45, ez_45⟩ : ∃ y : Int32, y = v2_28 + 1 := ⟨_, rfl⟩
          refine lv_iinc (v := z_45) (lv' := [(2, .int z_45), (0, .ref r0), (1, .ref s.heap.size)]) hx hb dX11_cancelRequest_89 hl (k := 2) rfl (by rw [ez_45]; rfl) (by decide) rfl (fun ls hl => ?_)
          have hz_45 : z_45.toInt = v2_28.toInt + 1 := by rw [ez_45]; exact jb_iadd2 (rfl) (by decide) (by omega)
          refine lv_goto (tgt := 35) hx hb dX11_cancelRequest_92 (by decide) ?_
          refine W.tight (c2 := ((n_pa - n_pa) / 16 + 11)) (n2 := (2 * (n_pa - n_pa) + 267)) hh_42.2.2.2.2.2.1 hh_42.2.2.2.2.2.2.1 ?_
          exact L35 z_45 _ _ (hh_42.sub (L1 := [(bo, 2, 1, .int pc), (bo, 2, 0, .ref pa), (r0, 13, 4, .ref bo), (r0, 13, 3, .ref ou), (r0, 13, 2, .ref js), (js, 6, 7, .int pv), (js, 6, 8, .int pu), (js, 6, 0, .ref wk), (js, 6, 1, .ref wi), (js, 6, 2, .ref wz), (js, 6, 5, .ref jks)]) [2, 3, 4, 5, 6, 7, 8, 9, 10, 11, 12] rfl (M1 := [(wk, 140, 1502, ca 1, fk), (wi, 141, 1502, ca 1, fi), (wz, 142, 1502, ca 1, fz), (jks, 145, 1502, ca 1, fs)]) [0, 1, 2, 3] rfl (I1 := [([(2, 0), (2, 1)], jOl (dC, dI) G0 2 [bo, ou] s.heap), (jFy, jYb dC dI G_9), (jFl, jLs dC dI ca G_9 3 none)]) [2, 0, 1] rfl) (⟨(by first | omega | rfl | assumption | fail), (by first | omega | rfl | assumption | fail)⟩) (by omega) _ (lv_sub hl [1, 2, 0] rfl)
        · skip
          have c_44' : r_43.toInt ≠ 0 := jb_eq_n (rfl) ((by decide)) c_44
          refine lv_aload_n hx hb dX11_cancelRequest_68 rfl (lv_at hl 0 rfl) ?_
          refine lv_aload_n hx hb dX11_cancelRequest_69 rfl (lv_at hl 0 rfl) ?_
          refine j7_read hx hb hown hK (C := RX11) (T := TX11) (N := 19) rfl hly_13_8 hlk_65 (hh_42.at 1 rfl) dX11_cancelRequest_70 ?_
          refine lv_iload_n hx hb dX11_cancelRequest_73 rfl (lv_at hl 2 rfl) ?_
          have hsz_46 := hh_42.2.2.2.2.2.1
          have htt_46 := hh_42.2.2.2.2.2.2.1
          refine W.room (fun hrc_46 hrs_46 => ?_)
          refine j_callFx (A0 := jA base) (H0 := s.heap) (va_runF (hK.1 1 _ rfl).2 (As := [.int v2_28]) (rest := [.ref r0]) ⟨hx, hb, hml, hown, hts⟩ (uJx4a65c_remove_915e3L2 l dC dI ca base B hB hAp hB1 hB10 hB222 G_9 H_42 waiting_31 v2_28 size_36) (va_cwF 1 hts (jgF (jWr_42 _ (List.mem_of_getElem? (i := 7) rfl)) (jWr_42 _ (List.mem_of_getElem? (i := 8) rfl)) (jWr_42 _ (List.mem_of_getElem? (i := 9) rfl)) (jWr_2 _ (List.mem_of_getElem? (i := 13) rfl)) (jWr_42 _ (List.mem_of_getElem? (i := 10) rfl))) rfl rfl rfl hK7.2.2.2.2.2.1.2.2.2 ⟨by decide, by decide, by decide +kernel⟩ ⟨by rw [← hR]; exact Nat.le_of_ble_eq_true rfl, by rw [← hR]; exact Nat.le_of_ble_eq_true rfl⟩) ⟨fun a U g mk q => by obtain ⟨q0, q1, q2, qK, q10, q11, q12, q13, q14⟩ := q; exact ⟨q0, q1, q2, jG.calling g mk a qK, (jK7.calling g mk a q10), q11, q12, q13, q14⟩, hh_42.recv (C := RJx4a65c) (T := TJx4a65c) (N := 3) hB1 rfl (by decide) hg_waiting_31 hK, fun U hU hW => ⟨rfl, hU, hh_42.2.1, hG.step hW hU hh_42.1, (hK7.step hW hU hh_42.1), hg_waiting_31, (hh_42.2.2.1.sub (L1 := [(waiting_31, 1, 2, .int size_36)]) [0] rfl), (hh_42.2.2.2.2.2.2.2.2.sub (L1 := [(jFl, jLs dC dI ca G_9 3 none)]) [1] rfl), ⟨(by first | omega | rfl | assumption | fail), (by first | omega | rfl | assumption | fail)⟩⟩⟩ rfl rfl hl.1 rfl (lv_room (Nat.le_of_ble_eq_true rfl)) dX11_cancelRequest_74 ⟨by rw [hRc]; show _ + 0 ≤ _; omega, by rw [hRs]; show _ + 0 ≤ _; omega⟩) hh_42.1 (fun q _ h => h) (fun q h => h) (fun r_47 u_46 t_46 H_46 locs_46 ht_46 hvm_46 hr_47 hb_46 hz_46 hk_46 hS_46 => ?_)
          obtain ⟨qz_46, rfl⟩ : ∃ z, z = u_46 := ⟨_, rfl⟩
          rw [ht_46] at hb_46
          obtain ⟨hb_46, hbE_46⟩ := hb_46
          obtain ⟨hb_46, hbO_46⟩ := hb_46
          obtain ⟨hb_461, hb_462, hb_463, hb_464, hb_465⟩ := hb_46
          have hh_46 : jSt (dC, dI) B base G0 G_9 EX11_cancelRequest s.heap ((n_pa - n_pa) / 16 + 11) (2 * (n_pa - n_pa) + 267) [(waiting_31, 1, 2, .int qz_46), (r0, 13, 8, .ref waiting_31), (bo, 2, 1, .int pc), (bo, 2, 0, .ref pa), (r0, 13, 4, .ref bo), (r0, 13, 3, .ref ou), (r0, 13, 2, .ref js), (js, 6, 7, .int pv), (js, 6, 8, .int pu), (js, 6, 0, .ref wk), (js, 6, 1, .ref wi), (js, 6, 2, .ref wz), (js, 6, 5, .ref jks)] [(wk, 140, 1502, ca 1, fk), (wi, 141, 1502, ca 1, fi), (wz, 142, 1502, ca 1, fz), (jks, 145, 1502, ca 1, fs)] [(jFl, jLs dC dI ca G_9 3 none), (jFy, jYb dC dI G_9), ([(2, 0), (2, 1)], jOl (dC, dI) G0 2 [bo, ou] s.heap)] H_46 locs_46 := (((hh_42.call hb_461 hb_462 hb_463 hb_464 hS_46 rfl (L1 := [(r0, 13, 8, .ref waiting_31), (bo, 2, 1, .int pc), (bo, 2, 0, .ref pa), (r0, 13, 4, .ref bo), (r0, 13, 3, .ref ou), (r0, 13, 2, .ref js), (js, 6, 7, .int pv), (js, 6, 8, .int pu), (js, 6, 0, .ref wk), (js, 6, 1, .ref wi), (js, 6, 2, .ref wz), (js, 6, 5, .ref jks)]) [1, 2, 3, 4, 5, 6, 7, 8, 9, 10, 11, 12] rfl rfl (M1 := [(wk, 140, 1502, ca 1, fk), (wi, 141, 1502, ca 1, fi), (wz, 142, 1502, ca 1, fz), (jks, 145, 1502, ca 1, fs)]) [0, 1, 2, 3] rfl rfl (I1 := [(jFy, jYb dC dI G_9), ([(2, 0), (2, 1)], jOl (dC, dI) G0 2 [bo, ou] s.heap)]) [0, 2] rfl rfl).more hb_465)).addIs hbE_46
          clear hh_42 ht_46 hvm_46 hz_46 hk_46 hS_46 hb_461 hb_462 hb_463 hb_464 hb_465
          clear  hbE_46
          obtain ⟨hr_47, hr_47p⟩ := hr_47
          obtain ⟨ret_48, rfl, hg_ret_48⟩ := hr_47
          refine va_castY hx hb hown (htw (.classLink RX11 115 "ProofServer$Request") (jWr_42 _ (List.mem_of_getElem? (i := 5) rfl))) hK7.2.2.1.2.1.2 (hh_46.recv (C := RX8) (T := TX8) (N := 5) hB10 rfl (by decide) hg_ret_48 hK) dX11_cancelRequest_79 ?_
          refine lv_ldcw hx hb hown hcs_429 dX11_cancelRequest_82 ?_
          have hsz_49 := hh_46.2.2.2.2.2.1
          have htt_49 := hh_46.2.2.2.2.2.2.1
          refine W.room (fun hrc_49 hrs_49 => ?_)
          refine va_callv (A0 := jA base) (H0 := s.heap) (va_runV (As := [.ref ret_48, .int (-32800)]) (rest := []) ⟨hx, hb, hml, hown, hts⟩ (uX11_refuse l dC dI ca base B hB hAp hB2 hB4 hB10 hB13 hB196 G_9 H_46 r0 ret_48 (-32800) bo pc pa n_pa ou LC LS) (cwV 2 hts (jgV (jWr_26 _ (List.mem_of_getElem? (i := 3) rfl)) (jWr_26 _ (List.mem_of_getElem? (i := 4) rfl)) (jWr_26 _ (List.mem_of_getElem? (i := 5) rfl)) (jWr_1 _ (List.mem_of_getElem? (i := 2) rfl)) (jWr_26 _ (List.mem_of_getElem? (i := 6) rfl))) rfl rfl rfl (by decide +kernel) ⟨by rw [← hR]; exact Nat.le_of_ble_eq_true rfl, by rw [← hR]; exact Nat.le_of_ble_eq_true rfl⟩) ⟨fun a U g mk q => by obtain ⟨q0, q1, q2, qK, q10, q11, q12, q13, q14, q15, q16, q17⟩ := q; exact ⟨q0, q1, q2, jG.calling g mk a qK, q10, q11, q12, q13, q14, q15, q16, q17⟩, hh_46.recv (C := RX11) (T := TX11) (N := 19) hB13 rfl (by decide) hg_11 hK, fun U hU hW => ⟨rfl, hU, hh_46.2.1, hG.step hW hU hh_46.1, hg_ret_48, hg_11, hg_12, hg_24, hg_13, (hh_46.2.2.1.sub (L1 := [(r0, 13, 4, .ref bo), (bo, 2, 1, .int pc), (bo, 2, 0, .ref pa), (r0, 13, 3, .ref ou)]) [4, 2, 3, 5] rfl), (hh_46.2.2.2.2.2.2.2.2.sub (L1 := [(jFy, jYb dC dI G_9)]) [1] rfl), (by omega), (by omega), ⟨(by first | omega | rfl | assumption | fail), (by first | omega | rfl | assumption | fail), (by first | omega | rfl | assumption | fail), (by first | omega | rfl | assumption | fail), (by first | assumption | fail | omega)⟩⟩⟩ rfl rfl hl.1 rfl (lv_room (Nat.le_of_ble_eq_true rfl)) dX11_cancelRequest_85 ⟨by rw [hRc]; omega, by rw [hRs]; omega⟩) hh_46.1 (fun q _ h => h) (fun q h => h) (fun u_49 t_49 H_49 locs_49 ht_49 hvm_49 hr_50 hb_49 hz_49 hk_49 hS_49 => ?_)
          obtain ⟨qc_49, qa_49, m_qa_49, G_49⟩ := u_49
          rw [ht_49] at hb_49
          simp only at hb_49
          obtain ⟨⟨hb_491, hb_492, hb_493, hb_494, hb_495, hb_496⟩, hgq_49_0, hN_49, hbO_49, hbE_49⟩ := hb_49
          have hY_49 := hN_49
          have hN_49 : (jNk [0, 1, 3, 4, 5, 6, 7, 8, 9, 11, 12, 13, 14, 15, 16]) G_9 G_49 := hN_49.sub (by decide)
          have hh_49 : jSt (dC, dI) B base G0 G_49 EX11_cancelRequest s.heap (((n_pa - n_pa) / 16 + 11) + ((m_qa_49 - n_pa) / 16)) ((2 * (n_pa - n_pa) + 267) + (2 * (m_qa_49 - n_pa))) [(bo, 2, 1, .int qc_49), (bo, 2, 0, .ref qa_49), (waiting_31, 1, 2, .int qz_46), (r0, 13, 8, .ref waiting_31), (r0, 13, 4, .ref bo), (r0, 13, 3, .ref ou), (r0, 13, 2, .ref js), (js, 6, 7, .int pv), (js, 6, 8, .int pu), (js, 6, 0, .ref wk), (js, 6, 1, .ref wi), (js, 6, 2, .ref wz), (js, 6, 5, .ref jks)] [(wk, 140, 1502, ca 1, fk), (wi, 141, 1502, ca 1, fi), (wz, 142, 1502, ca 1, fz), (jks, 145, 1502, ca 1, fs)] [(jFl, jLs dC dI ca G_9 3 none)] H_49 locs_49 := (hh_46.callG hb_491 hb_492 hb_493 hb_494 hb_495 hS_49 rfl (L1 := [(waiting_31, 1, 2, .int qz_46), (r0, 13, 8, .ref waiting_31), (r0, 13, 4, .ref bo), (r0, 13, 3, .ref ou), (r0, 13, 2, .ref js), (js, 6, 7, .int pv), (js, 6, 8, .int pu), (js, 6, 0, .ref wk), (js, 6, 1, .ref wi), (js, 6, 2, .ref wz), (js, 6, 5, .ref jks)]) [0, 1, 4, 5, 6, 7, 8, 9, 10, 11, 12] rfl rfl (M1 := [(wk, 140, 1502, ca 1, fk), (wi, 141, 1502, ca 1, fi), (wz, 142, 1502, ca 1, fz), (jks, 145, 1502, ca 1, fs)]) [0, 1, 2, 3] rfl rfl (I1 := [(jFl, jLs dC dI ca G_9 3 none)]) [0] rfl rfl).more hb_496
          have hNn_49 : (jNk [0, 1, 3, 4, 5, 6, 7, 8, 9, 11, 12, 13, 14, 15, 16]) G0 G_49 := (hNn_9).tr hN_49
          have hg_51 := hb_492 _ _ hg_11
          have hg_52 := hb_492 _ _ hgc_9
          have hg_53 := hb_492 _ _ hg_waiting_31
          have hg_54 := hb_492 _ _ hg_12
          have hg_55 := hb_492 _ _ hg_13
          have hg_56 := hb_492 _ _ hg_14
          have hg_57 := hb_492 _ _ hg_15
          have hg_58 := hb_492 _ _ hg_16
          have hg_59 := hb_492 _ _ hg_17
          have hg_60 := hb_492 _ _ hg_18
          have hd_61 := jLs.grow (hh_49.iv 0 rfl) hb_492 hN_49 (by decide)
          have hh_62 := hh_49.sub (L1 := [(bo, 2, 1, .int qc_49), (bo, 2, 0, .ref qa_49), (waiting_31, 1, 2, .int qz_46), (r0, 13, 8, .ref waiting_31), (r0, 13, 4, .ref bo), (r0, 13, 3, .ref ou), (r0, 13, 2, .ref js), (js, 6, 7, .int pv), (js, 6, 8, .int pu), (js, 6, 0, .ref wk), (js, 6, 1, .ref wi), (js, 6, 2, .ref wz), (js, 6, 5, .ref jks)]) [0, 1, 2, 3, 4, 5, 6, 7, 8, 9, 10, 11, 12] rfl (M1 := [(wk, 140, 1502, ca 1, fk), (wi, 141, 1502, ca 1, fi), (wz, 142, 1502, ca 1, fz), (jks, 145, 1502, ca 1, fs)]) [0, 1, 2, 3] rfl (I1 := []) [] rfl
          clear hh_49
          have hh_63 := hh_62.addI (jLs.ie hd_61)
          clear hh_62
          have hh_64 := hh_63.addIs hbE_49
          have hd_65 := jOl.trL (hh_46.iv 2 rfl) hh_46.2.2.2.2.1 hbO_49 (by simp)
          have hh_66 := hh_64.addI (jOl.ie (dC := dC) (dI := dI) (G0 := G0) (k := 2) (rs := [bo, ou]) (H0 := s.heap) (F := [(2, 0), (2, 1)]) (C := RX0) (T := TX0) (N := 2) rfl (by decide) hh_64.2.2.2.2.1 (hd_65))
          clear hh_64
          try simp only at hr_50
          obtain ⟨hr_50_0, hr_50_1, hr_50_2, hr_50_3, hr_50_4⟩ := hr_50
          have hh_67 := hh_66.wk (zc1 := (m_qa_49 - n_pa) / 16 + 11) (zs1 := 2 * (m_qa_49 - n_pa) + 267) (by omega) (by omega)
          clear hh_66
          try clear hsz_49 htt_49 hrc_49 hrs_49
          try clear hb_494 hb_495
          have hsz_68 := hh_67.2.2.2.2.2.1
          have htt_68 := hh_67.2.2.2.2.2.2.1
          refine W.room (fun hrc_68 hrs_68 => ?_)
          refine W.widen (k := LC - s.heap.size) (n := LS - jTot s.heap) (by omega) (by omega) ?_
          rw [hQ]
          exact W.vret hx hb hr (fun t ht hW => ⟨⟨(qc_49, qa_49, m_qa_49, G_49), rfl, by (try dsimp only); exact ⟨(by first | omega | rfl | assumption | fail), (by first | omega | rfl | assumption | fail), (by first | omega | rfl | assumption | fail), (by first | omega | rfl | assumption | fail), (by first | assumption | fail | omega)⟩, ⟨hh_67.ra (by first | omega | (simp only; omega)) (by first | omega | (simp only; omega)) (M1 := [(bo, 2, 1, .int qc_49), (bo, 2, 0, .ref qa_49)]) [0, 1] rfl ht, hgq_49_0, hNn_49, by rw [ht]; exact hh_67.iv 0 rfl, by rw [ht]; exact hh_67.2.2.2.2.2.2.2.2.sub (L1 := [(jFy, jYb dC dI G_49), (jFl, jLs dC dI ca G_49 3 none)]) [1, 2] rfl⟩⟩, by rw [ht]; try exact hh_67.1.1, fun q h9 hq => by rw [ht]; try exact hh_67.1.2.1 q h9 hq⟩) hh_67.1.2.2 dX11_cancelRequest_88
  refine W.tight (c2 := ((n_pa - n_pa) / 16 + 11)) (n2 := (2 * (n_pa - n_pa) + 267)) hh_27.2.2.2.2.2.1 hh_27.2.2.2.2.2.2.1 ?_
  exact L35 (41 - (0 : Int32).toInt : Int).toNat.succ 0 _ _ hh_27 (⟨(by first | omega | rfl | assumption | fail), (by first | omega | rfl | assumption | fail)⟩) (by omega) _ (lv_sub hl [2, 1, 0] rfl)
set_option maxHeartbeats 4000000 in
set_option maxRecDepth 20000 in
theorem uX11_request (l : Launch) (dC : Nat → ClassId) (dI : Nat → Nat → Nat) (ca : Nat → ClassId) (base : Nat) (B : jF) (hB : jBok B) (hAp : jAp (dC, dI)) (hB1 : ∀ n G a H, B 1 n G a H ↔ jOb (dC, dI) 1 3 (F1 n G) a H) (hB2 : ∀ n G a H, B 2 n G a H ↔ jOb (dC, dI) 2 2 (F2 n G) a H) (hB3 : ∀ n G a H, B 3 n G a H ↔ jOb (dC, dI) 3 17 (F3 n G) a H) (hB4 : ∀ n G a H, B 4 n G a H ↔ jOb (dC, dI) 4 12 (F4 n G) a H) (hB5 : ∀ n G a H, B 5 n G a H ↔ jOb (dC, dI) 5 4 (F5 n G) a H) (hB6 : ∀ n G a H, B 6 n G a H ↔ jOb (dC, dI) 6 12 (F6 n G) a H) (hB7 : ∀ n G a H, B 7 n G a H ↔ jOb (dC, dI) 7 11 (F7 n G) a H) (hB8 : ∀ n G a H, B 8 n G a H ↔ jOb (dC, dI) 8 4 (F8 n G) a H) (hB9 : ∀ n G a H, B 9 n G a H ↔ jOb (dC, dI) 9 5 (F9b n G) a H) (hB10 : ∀ n G a H, B 10 n G a H ↔ jOb (dC, dI) 10 5 (F10 n G) a H) (hB11 : ∀ n G a H, B 11 n G a H ↔ jOb (dC, dI) 11 9 (F11 n G) a H) (hB13 : ∀ n G a H, B 13 n G a H ↔ jOb (dC, dI) 13 19 (F13 n G) a H) (hB101 : ∀ n G a H, B 101 n G a H ↔ jAr (dC, dI) (ca 1) (fun j z => True) n a H) (hB102 : ∀ n G a H, B 102 n G a H ↔ jAl (dC, dI) (ca 2) n a H) (hB132 : ∀ n G a H, B 132 n G a H ↔ jAr (dC, dI) (ca 1) (fun j z => 0 ≤ z.toInt ∧ z.toInt ≤ 10) n a H) (hB133 : ∀ n G a H, B 133 n G a H ↔ jAr (dC, dI) (ca 1) (fun j z => 0 ≤ z.toInt ∧ z.toInt ≤ 8192) n a H) (hB140 : ∀ n G a H, B 140 n G a H ↔ jAr (dC, dI) (ca 1) (fun j z => True) n a H) (hB141 : ∀ n G a H, B 141 n G a H ↔ jAr (dC, dI) (ca 1) (fun j z => True) n a H) (hB142 : ∀ n G a H, B 142 n G a H ↔ jAr (dC, dI) (ca 1) (fun j z => True) n a H) (hB143 : ∀ n G a H, B 143 n G a H ↔ jAr (dC, dI) (ca 1) (fun j z => True) n a H) (hB144 : ∀ n G a H, B 144 n G a H ↔ jAr (dC, dI) (ca 1) (fun j z => 0 ≤ z.toInt ∧ z.toInt ≤ 3000) n a H) (hB145 : ∀ n G a H, B 145 n G a H ↔ jAr (dC, dI) (ca 1) (fun j z => True) n a H) (hB146 : ∀ n G a H, B 146 n G a H ↔ jAr (dC, dI) (ca 1) (fun j z => True) n a H) (hB172 : ∀ n G a H, B 172 n G a H ↔ jAr (dC, dI) (ca 1) (fun j z => 0 ≤ z.toInt ∧ z.toInt ≤ 1500) n a H) (hB196 : ∀ n G a H, B 196 n G a H ↔ jAr (dC, dI) (ca 0) (fun j z => jBf j z) n a H) (hB210 : ∀ n G a H, B 210 n G a H ↔ jAq (dC, dI) (ca 6) (jQn 11 0) n G a H) (hB214 : ∀ n G a H, B 214 n G a H ↔ jAq (dC, dI) (ca 7) (jQg) n G a H) (hB221 : ∀ n G a H, B 221 n G a H ↔ jAq (dC, dI) (ca 9) (jQn 3 0) n G a H) (hB222 : ∀ n G a H, B 222 n G a H ↔ jAq (dC, dI) (ca 9) (jQn 10 0) n G a H) (hB280 : ∀ n G a H, B 280 n G a H ↔ jAr (dC, dI) (ca 1) (fun j z => -1 ≤ z.toInt) n a H) (hB286 : ∀ n G a H, B 286 n G a H ↔ jAr (dC, dI) (ca 1) (fun j z => (0 ≤ z.toInt ∨ z.toInt = -3)) n a H) (hB287 : ∀ n G a H, B 287 n G a H ↔ jAr (dC, dI) (ca 1) (fun j z => 0 ≤ z.toInt ∧ z.toInt ≤ 65535) n a H) (hB288 : ∀ n G a H, B 288 n G a H ↔ jAr (dC, dI) (ca 1) (fun j z => 0 ≤ z.toInt ∧ z.toInt ≤ 160) n a H) (hB313 : ∀ n G a H, B 313 n G a H ↔ jAq (dC, dI) (ca 8) (jQk 280 80) n G a H) (G0 : jT) (H0 : Heap) (r0 : Nat) (r1 : Nat) (bo : Nat) (pc : Int32) (pa : Nat) (n_pa : Nat) (ou : Nat) (js : Nat) (pv : Int32) (pu : Int32) (wk : Nat) (wi : Nat) (wz : Nat) (jks : Nat) (fk : Nat → Int32) (fi : Nat → Int32) (fz : Nat → Int32) (fs : Nat → Int32) (LC LS : Nat) : Met l yX11_request (jw yX11_request cX11_request 4 none) ({ frames := 9, cells := LC - H0.size, slots := LS - jTot H0, locals := 263 }) (va_Pc [.ref r0, .ref r1] (fun U => U.heap = H0 ∧ jX B base G0 [] H0 ∧ jG dC dI ca base U ∧ jK2 dC dI ca U ∧ jK5 dC dI ca U ∧ jK7 dC dI ca base U ∧ G0 r0 = some (13, 0) ∧ G0 r1 = some (10, 0) ∧ G0 bo = some (2, 0) ∧ G0 pa = some (196, n_pa) ∧ G0 ou = some (2, 20000) ∧ G0 js = some (6, 0) ∧ G0 wk = some (140, 1502) ∧ G0 wi = some (141, 1502) ∧ G0 wz = some (142, 1502) ∧ G0 jks = some (145, 1502) ∧ jP (dC, dI) G0 H0 [(r0, 13, 4, .ref bo), (bo, 2, 1, .int pc), (bo, 2, 0, .ref pa), (r0, 13, 3, .ref ou), (r0, 13, 2, .ref js), (js, 6, 7, .int pv), (js, 6, 8, .int pu), (js, 6, 0, .ref wk), (js, 6, 1, .ref wi), (js, 6, 2, .ref wz), (js, 6, 5, .ref jks)] ∧ jMc (dC, dI) G0 H0 [(wk, 140, 1502, ca 1, fk), (wi, 141, 1502, ca 1, fi), (wz, 142, 1502, ca 1, fz), (jks, 145, 1502, ca 1, fs)] ∧ jIs (dC, dI) G0 H0 [(jFy, jYb dC dI G0), (jFs11, jSef dC dI G0), (jFl, jLs dC dI ca G0 3 none)] ∧ H0.size + (1048576 - n_pa) / 16 + 4 ≤ LC ∧ jTot H0 + 2 * (1048576 - n_pa) + 3100 ≤ LS ∧ 0 ≤ pc.toInt ∧ pc.toInt ≤ n_pa ∧ 16 ≤ n_pa ∧ n_pa ≤ 1048576 ∧ jPw n_pa ∧ 0 ≤ pv.toInt ∧ pv.toInt ≤ 1502 ∧ 0 ≤ pu.toInt ∧ pu.toInt ≤ 3000 ∧ jJq fk fi fz pv.toInt ∧ jJu fk fz pv.toInt pu.toInt)) (va_Qv (S := Int32 × Nat × Nat × jT) (fun u => 0 ≤ u.1.toInt ∧ u.1.toInt ≤ u.2.2.1 ∧ n_pa ≤ u.2.2.1 ∧ u.2.2.1 ≤ 1048576 ∧ jPw u.2.2.1) (fun u t => jRa (dC, dI) B base G0 u.2.2.2 EX11_request H0 ((u.2.2.1 - n_pa) / 16 + 2) (2 * (u.2.2.1 - n_pa) + 40 + pu.toInt.toNat) [(bo, 2, 1, .int u.1), (bo, 2, 0, .ref u.2.1)] t.heap ∧ u.2.2.2 u.2.1 = some (196, u.2.2.1) ∧ (jNk [0, 1, 2, 3, 4, 5, 6, 7, 8, 9, 10, 11, 12, 13, 14, 15, 16]) G0 u.2.2.2 ∧ jOl (dC, dI) G0 2 [bo, ou] H0 t.heap ∧ jIs (dC, dI) u.2.2.2 t.heap [(jFy, jYb dC dI u.2.2.2), (jFs11, jSef dC dI u.2.2.2), (jFl, jLs dC dI ca u.2.2.2 3 none)]) (jA base)) (LC - H0.size) (LS - jTot H0) (jA base) := by
  refine Met.ofW (cc := cX11_request) (maxL := 4) (ret := none) (by decide) rfl ?_
  intro p e s m args below meth c s₁ Bd hml hv
  obtain ⟨rfl, hH0, hX, hG, hK2, hK5, hK7, hg_r0, hg_r1, hg_bo, hg_pa, hg_ou, hg_js, hg_wk, hg_wi, hg_wz, hg_jks, hP0, hM0, hI0, hLC0, hLS0, hp0, hp1, hp2, hp3, hp4, hp5, hp6, hp7, hp8, hp9, hp10⟩ := hv
  have hK := hG.1
  have hx := Bd.exec
  have hb := Bd.bytes
  have hr := Bd.returns
  have hts := atoms_spec (ws := (jw yX11_request cX11_request 4 none)) Bd.pre
  have htw : ∀ w ∈ jWl, w.before _ s = true := fun w h => hts w (List.mem_cons_of_mem _ h)
  have hown : s.vm.findClass RX11 = some m.cls := findClass_of_methodNamed Bd.named
  have hlocks := Bd.notSynchronized
  obtain ⟨Q, hQ⟩ : ∃ Q, Q = MQ below (va_Qv (S := Int32 × Nat × Nat × jT) (fun u => 0 ≤ u.1.toInt ∧ u.1.toInt ≤ u.2.2.1 ∧ n_pa ≤ u.2.2.1 ∧ u.2.2.1 ≤ 1048576 ∧ jPw u.2.2.1) (fun u t => jRa (dC, dI) B base G0 u.2.2.2 EX11_request H0 ((u.2.2.1 - n_pa) / 16 + 2) (2 * (u.2.2.1 - n_pa) + 40 + pu.toInt.toNat) [(bo, 2, 1, .int u.1), (bo, 2, 0, .ref u.2.1)] t.heap ∧ u.2.2.2 u.2.1 = some (196, u.2.2.1) ∧ (jNk [0, 1, 2, 3, 4, 5, 6, 7, 8, 9, 10, 11, 12, 13, 14, 15, 16]) G0 u.2.2.2 ∧ jOl (dC, dI) G0 2 [bo, ou] H0 t.heap ∧ jIs (dC, dI) u.2.2.2 t.heap [(jFy, jYb dC dI u.2.2.2), (jFs11, jSef dC dI u.2.2.2), (jFl, jLs dC dI ca u.2.2.2 3 none)]) (jA base)) ([.ref r0, .ref r1] : List Value).toArray s (LC - H0.size) (LS - jTot H0) (jA base) := ⟨_, rfl⟩
  rw [← hQ]
  have hl := lv_entry ([.ref r0, .ref r1]) (n := 4) (Nat.le_of_ble_eq_true rfl)
  rw [lg_entry_eq]
  generalize (lg_sl ([.ref r0, .ref r1]) ++ List.replicate (4 - (lg_sl ([.ref r0, .ref r1])).length) Slot.unset).toArray = ls at hl ⊢
  have hl : lv_has ls 4 [(0, .ref r0), (1, .ref r1)] := hl
  generalize hR : (headSpec (jw yX11_request cX11_request 4 none) ({ frames := 9, cells := LC - H0.size, slots := LS - jTot H0, locals := 263 })).room = R
  subst hH0
  have hh : jSt (dC, dI) B base G0 G0 EX11_request s.heap 0 0 [(r0, 13, 4, .ref bo), (bo, 2, 1, .int pc), (bo, 2, 0, .ref pa), (r0, 13, 3, .ref ou), (r0, 13, 2, .ref js), (js, 6, 7, .int pv), (js, 6, 8, .int pu), (js, 6, 0, .ref wk), (js, 6, 1, .ref wi), (js, 6, 2, .ref wz), (js, 6, 5, .ref jks)] [(wk, 140, 1502, ca 1, fk), (wi, 141, 1502, ca 1, fi), (wz, 142, 1502, ca 1, fz), (jks, 145, 1502, ca 1, fs)] [(jFy, jYb dC dI G0), (jFs11, jSef dC dI G0), (jFl, jLs dC dI ca G0 3 none)] s.heap [] := jSt.start hX hP0 hM0 hI0
  clear hX hP0
  have hkm32601 : ((-32601) : Int32).toInt = (-32601) := by decide
  have hkm32600 : ((-32600) : Int32).toInt = (-32600) := by decide
  have hkm32002 : ((-32002) : Int32).toInt = (-32002) := by decide
  have hk0 : (0 : Int32).toInt = 0 := by decide
  have hk1 : (1 : Int32).toInt = 1 := by decide
  have hk2 : (2 : Int32).toInt = 2 := by decide
  have hly_13_2 := htw (u_lay RX11 TX11 2) (jWc_wsX110 _ (u_in_lay (by decide)))
  have hly_13_4 := htw (u_lay RX11 TX11 4) (jWc_wsX110 _ (u_in_lay (by decide)))
  have hly_13_11 := htw (u_lay RX11 TX11 11) (jWc_wsX110 _ (u_in_lay (by decide)))
  have hlk_28 := (htw (.fieldLink RX11 28 "ProofServer" "json" "LProofServer$Json;") (jWr_1 _ (List.mem_of_getElem? (i := 23) rfl)))
  obtain ⟨str281, rstr281, hstr2810⟩ := hG.str (o := RX11) (k := 281) (tx := "method") (List.mem_of_getElem? (i := 859) (by decide +kernel))
  have hstr281 : jStr base str281 6 s s.heap := hstr2810
  obtain ⟨str287, rstr287, hstr2870⟩ := hG.str (o := RX11) (k := 287) (tx := qtx865) (List.mem_of_getElem? (i := 865) (by decide +kernel))
  have h9str287 : qtx865.length = 10 := by decide +kernel
  have hstr287 : jStr base str287 10 s s.heap := by rw [h9str287] at hstr2870; exact hstr2870
  have hlk_77 := (htw (.fieldLink RX11 77 "ProofServer" "phase" "I") (jWr_2 _ (List.mem_of_getElem? (i := 19) rfl)))
  obtain ⟨str289, rstr289, hstr2890⟩ := hG.str (o := RX11) (k := 289) (tx := ",\"result\":") (List.mem_of_getElem? (i := 866) (by decide +kernel))
  have hstr289 : jStr base str289 10 s s.heap := hstr2890
  have hlk_35 := (htw (.fieldLink RX11 35 "ProofServer" "body" "LProofServer$Bytes;") (jWr_2 _ (List.mem_of_getElem? (i := 1) rfl)))
  obtain ⟨str295, rstr295, hstr2950⟩ := hG.str (o := RX11) (k := 295) (tx := "{\"capabilities\":{\"textDocumentSync\":2}}}") (List.mem_of_getElem? (i := 867) (by decide +kernel))
  have hstr295 : jStr base str295 40 s s.heap := hstr2950
  obtain ⟨str303, rstr303, hstr3030⟩ := hG.str (o := RX11) (k := 303) (tx := "shutdown") (List.mem_of_getElem? (i := 868) (by decide +kernel))
  have hstr303 : jStr base str303 8 s s.heap := hstr3030
  obtain ⟨str305, rstr305, hstr3050⟩ := hG.str (o := RX11) (k := 305) (tx := "null}") (List.mem_of_getElem? (i := 869) (by decide +kernel))
  have hstr305 : jStr base str305 5 s s.heap := hstr3050
  obtain ⟨str307, rstr307, hstr3070⟩ := hG.str (o := RX11) (k := 307) (tx := "proof/goals") (List.mem_of_getElem? (i := 870) (by decide +kernel))
  have hstr307 : jStr base str307 11 s s.heap := hstr3070
  obtain ⟨str317, rstr317, hstr3170⟩ := hG.str (o := RX11) (k := 317) (tx := "proof/statement") (List.mem_of_getElem? (i := 1083) (by decide +kernel))
  have hstr317 : jStr base str317 15 s s.heap := hstr3170
  have hbs : base ≤ s.heap.size := Nat.le_of_lt (Nat.lt_of_le_of_lt (hh.ab hg_r0).1 (hh.ab hg_r0).2)
  have hRc : R.cells = LC - s.heap.size := by rw [← hR]; rfl
  have hRs : R.slots = LS - jTot s.heap := by rw [← hR]; rfl
  have hh_1 := hh.addI (jOl.ie (dC := dC) (dI := dI) (G0 := G0) (k := 2) (rs := [bo, ou]) (H0 := s.heap) (F := [(2, 0), (2, 1)]) (C := RX0) (T := TX0) (N := 2) rfl (by decide) hh.2.2.2.2.1 (jOl.rf))
  clear hh
  refine lv_aload_n hx hb dX11_request_0 rfl (lv_at hl 0 rfl) ?_
  refine j7_read hx hb hown hK (C := RX11) (T := TX11) (N := 19) rfl hly_13_2 hlk_28 (hh_1.at 4 rfl) dX11_request_1 ?_
  refine lv_iconst (v := 0) hx hb dX11_request_4 (by decide) ?_
  refine j_ldcSw hx hb hown rstr281 dX11_request_5 ?_
  have hsz_2 := hh_1.2.2.2.2.2.1
  have htt_2 := hh_1.2.2.2.2.2.2.1
  refine W.room (fun hrc_2 hrs_2 => ?_)
  refine va_calli (A0 := jA base) (H0 := s.heap) (va_runV (As := [.int 0, .ref str281]) (rest := []) ⟨hx, hb, hml, hown, hts⟩ (uX4_memberQ l dC dI ca base B hB hAp hB6 hB140 hB141 hB142 hB143 hB144 hB145 hB146 G0 s.heap js 0 str281 6 pv wk wi wz jks fk fi fz fs) (cwV 2 hts (jgV (jWr_23 _ (List.mem_of_getElem? (i := 10) rfl)) (jWr_23 _ (List.mem_of_getElem? (i := 11) rfl)) (jWr_23 _ (List.mem_of_getElem? (i := 12) rfl)) (jWr_1 _ (List.mem_of_getElem? (i := 22) rfl)) (jWr_23 _ (List.mem_of_getElem? (i := 13) rfl))) rfl rfl rfl (by decide +kernel) ⟨by rw [← hR]; exact Nat.le_of_ble_eq_true rfl, by rw [← hR]; exact Nat.le_of_ble_eq_true rfl⟩) ⟨fun a U g mk q => by obtain ⟨q0, q1, q2, qK, q10, q11, q12, q13, q14, q15, q16, q17, q18⟩ := q; exact ⟨q0, q1, q2, jG.calling g mk a qK, (q10.moved (Vm.Alike.refl U.vm)), q11, q12, q13, q14, q15, q16, q17, q18⟩, hh_1.recv (C := RX4) (T := TX4) (N := 12) hB6 rfl (by decide) hg_js hK, fun U hU hW => ⟨rfl, hU, hh_1.2.1, hG.step hW hU hh_1.1, (hstr281.moved hW.alike).kept hh_1.1.2.1, hg_js, hg_wk, hg_wi, hg_wz, hg_jks, (hh_1.2.2.1.sub (L1 := [(js, 6, 7, .int pv), (js, 6, 0, .ref wk), (js, 6, 1, .ref wi), (js, 6, 2, .ref wz), (js, 6, 5, .ref jks)]) [5, 7, 8, 9, 10] rfl), (hh_1.2.2.2.2.2.2.2.1.sub (L1 := [(wk, 140, 1502, ca 1, fk), (wi, 141, 1502, ca 1, fi), (wz, 142, 1502, ca 1, fz), (jks, 145, 1502, ca 1, fs)]) [0, 1, 2, 3] rfl), by first | omega | (refine ⟨?_, ?_, ?_⟩ <;> (first | omega | rfl | assumption | decide | exact Or.inl rfl | exact Or.inr rfl | (simp only; omega)))⟩⟩ rfl rfl hl.1 rfl (lv_room (Nat.le_of_ble_eq_true rfl)) dX11_request_8 ⟨by rw [hRc]; show _ + 0 ≤ _; omega, by rw [hRs]; show _ + 0 ≤ _; omega⟩) hh_1.1 (fun q _ h => h) (fun q h => h) (fun r_3 u_2 t_2 H_2 locs_2 ht_2 hvm_2 hr_3 hb_2 hz_2 hk_2 hS_2 => ?_)
  rw [ht_2] at hb_2
  obtain ⟨hb_2, hbF_2⟩ := hb_2
  obtain ⟨hb_21, hb_22, hb_23, hb_24, hb_25⟩ := hb_2
  have hh_2 : jSt (dC, dI) B base G0 G0 EX11_request s.heap 0 0 [(r0, 13, 4, .ref bo), (bo, 2, 1, .int pc), (bo, 2, 0, .ref pa), (r0, 13, 3, .ref ou), (r0, 13, 2, .ref js), (js, 6, 7, .int pv), (js, 6, 8, .int pu), (js, 6, 0, .ref wk), (js, 6, 1, .ref wi), (js, 6, 2, .ref wz), (js, 6, 5, .ref jks)] [(wk, 140, 1502, ca 1, fk), (wi, 141, 1502, ca 1, fi), (wz, 142, 1502, ca 1, fz), (jks, 145, 1502, ca 1, fs)] [([(2, 0), (2, 1)], jOl (dC, dI) G0 2 [bo, ou] s.heap), (jFy, jYb dC dI G0), (jFs11, jSef dC dI G0), (jFl, jLs dC dI ca G0 3 none)] H_2 locs_2 := ((hh_1.call hb_21 hb_22 hb_23 hb_24 hS_2 rfl (L1 := [(r0, 13, 4, .ref bo), (bo, 2, 1, .int pc), (bo, 2, 0, .ref pa), (r0, 13, 3, .ref ou), (r0, 13, 2, .ref js), (js, 6, 7, .int pv), (js, 6, 8, .int pu), (js, 6, 0, .ref wk), (js, 6, 1, .ref wi), (js, 6, 2, .ref wz), (js, 6, 5, .ref jks)]) [0, 1, 2, 3, 4, 5, 6, 7, 8, 9, 10] rfl rfl (M1 := [(wk, 140, 1502, ca 1, fk), (wi, 141, 1502, ca 1, fi), (wz, 142, 1502, ca 1, fz), (jks, 145, 1502, ca 1, fs)]) [0, 1, 2, 3] rfl rfl (I1 := [([(2, 0), (2, 1)], jOl (dC, dI) G0 2 [bo, ou] s.heap), (jFy, jYb dC dI G0), (jFs11, jSef dC dI G0), (jFl, jLs dC dI ca G0 3 none)]) [0, 1, 2, 3] rfl rfl).more hb_25)
  clear hh_1 ht_2 hvm_2 hz_2 hk_2 hS_2 hb_21 hb_22 hb_23 hb_24 hb_25
  obtain ⟨hr_3_0, hr_3_1, hr_3_2⟩ := hr_3
  refine lv_istore_n (lv' := [(2, .int r_3), (0, .ref r0), (1, .ref r1)]) hx hb dX11_request_11 rfl hl (by decide) rfl (fun ls hl => ?_)
  refine lv_aload_n hx hb dX11_request_12 rfl (lv_at hl 1 rfl) ?_
  refine j7_read hx hb hown hK (C := RX11) (T := TX11) (N := 19) rfl hly_13_2 hlk_28 (hh_2.at 4 rfl) dX11_request_13 ?_
  refine lv_iload_n hx hb dX11_request_16 rfl (lv_at hl 0 rfl) ?_
  refine j_ldcSw hx hb hown rstr287 dX11_request_17 ?_
  have hsz_4 := hh_2.2.2.2.2.2.1
  have htt_4 := hh_2.2.2.2.2.2.2.1
  refine W.room (fun hrc_4 hrs_4 => ?_)
  refine va_calli (A0 := jA base) (H0 := s.heap) (va_runV (As := [.int r_3, .ref str287]) (rest := []) ⟨hx, hb, hml, hown, hts⟩ (uX4_isTextQ l dC dI ca base B hB hAp hB6 hB140 hB141 hB142 hB146 G0 H_2 js r_3 str287 10 pv wk wi wz fk fi fz) (cwV 2 hts (jgV (jWr_27 _ (List.mem_of_getElem? (i := 1) rfl)) (jWr_27 _ (List.mem_of_getElem? (i := 2) rfl)) (jWr_27 _ (List.mem_of_getElem? (i := 3) rfl)) (jWr_1 _ (List.mem_of_getElem? (i := 22) rfl)) (jWr_27 _ (List.mem_of_getElem? (i := 4) rfl))) rfl rfl rfl (by decide +kernel) ⟨by rw [← hR]; exact Nat.le_of_ble_eq_true rfl, by rw [← hR]; exact Nat.le_of_ble_eq_true rfl⟩) ⟨fun a U g mk q => by obtain ⟨q0, q1, q2, qK, q10, q11, q12, q13, q14, q15, q16, q17⟩ := q; exact ⟨q0, q1, q2, jG.calling g mk a qK, (q10.moved (Vm.Alike.refl U.vm)), q11, q12, q13, q14, q15, q16, q17⟩, hh_2.recv (C := RX4) (T := TX4) (N := 12) hB6 rfl (by decide) hg_js hK, fun U hU hW => ⟨rfl, hU, hh_2.2.1, hG.step hW hU hh_2.1, (hstr287.moved hW.alike).kept hh_2.1.2.1, hg_js, hg_wk, hg_wi, hg_wz, (hh_2.2.2.1.sub (L1 := [(js, 6, 7, .int pv), (js, 6, 0, .ref wk), (js, 6, 1, .ref wi), (js, 6, 2, .ref wz)]) [5, 7, 8, 9] rfl), (hh_2.2.2.2.2.2.2.2.1.sub (L1 := [(wk, 140, 1502, ca 1, fk), (wi, 141, 1502, ca 1, fi), (wz, 142, 1502, ca 1, fz)]) [0, 1, 2] rfl), by first | omega | (refine ⟨?_, ?_, ?_, ?_⟩ <;> (first | omega | rfl | assumption | decide | exact Or.inl rfl | exact Or.inr rfl | (simp only; omega)))⟩⟩ rfl rfl hl.1 rfl (lv_room (Nat.le_of_ble_eq_true rfl)) dX11_request_20 ⟨by rw [hRc]; show _ + 0 ≤ _; omega, by rw [hRs]; show _ + 0 ≤ _; omega⟩) hh_2.1 (fun q _ h => h) (fun q h => h) (fun r_5 u_4 t_4 H_4 locs_4 ht_4 hvm_4 hr_5 hb_4 hz_4 hk_4 hS_4 => ?_)
  rw [ht_4] at hb_4
  obtain ⟨hb_4, hbF_4⟩ := hb_4
  obtain ⟨hb_41, hb_42, hb_43, hb_44, hb_45⟩ := hb_4
  have hh_4 : jSt (dC, dI) B base G0 G0 EX11_request s.heap 0 0 [(r0, 13, 4, .ref bo), (bo, 2, 1, .int pc), (bo, 2, 0, .ref pa), (r0, 13, 3, .ref ou), (r0, 13, 2, .ref js), (js, 6, 7, .int pv), (js, 6, 8, .int pu), (js, 6, 0, .ref wk), (js, 6, 1, .ref wi), (js, 6, 2, .ref wz), (js, 6, 5, .ref jks)] [(wk, 140, 1502, ca 1, fk), (wi, 141, 1502, ca 1, fi), (wz, 142, 1502, ca 1, fz), (jks, 145, 1502, ca 1, fs)] [([(2, 0), (2, 1)], jOl (dC, dI) G0 2 [bo, ou] s.heap), (jFy, jYb dC dI G0), (jFs11, jSef dC dI G0), (jFl, jLs dC dI ca G0 3 none)] H_4 locs_4 := ((hh_2.call hb_41 hb_42 hb_43 hb_44 hS_4 rfl (L1 := [(r0, 13, 4, .ref bo), (bo, 2, 1, .int pc), (bo, 2, 0, .ref pa), (r0, 13, 3, .ref ou), (r0, 13, 2, .ref js), (js, 6, 7, .int pv), (js, 6, 8, .int pu), (js, 6, 0, .ref wk), (js, 6, 1, .ref wi), (js, 6, 2, .ref wz), (js, 6, 5, .ref jks)]) [0, 1, 2, 3, 4, 5, 6, 7, 8, 9, 10] rfl rfl (M1 := [(wk, 140, 1502, ca 1, fk), (wi, 141, 1502, ca 1, fi), (wz, 142, 1502, ca 1, fz), (jks, 145, 1502, ca 1, fs)]) [0, 1, 2, 3] rfl rfl (I1 := [([(2, 0), (2, 1)], jOl (dC, dI) G0 2 [bo, ou] s.heap), (jFy, jYb dC dI G0), (jFs11, jSef dC dI G0), (jFl, jLs dC dI ca G0 3 none)]) [0, 1, 2, 3] rfl rfl).more hb_45)
  clear hh_2 ht_4 hvm_4 hz_4 hk_4 hS_4 hb_41 hb_42 hb_43 hb_44 hb_45
  obtain ⟨hr_5b, hr_5p⟩ := hr_5
  have hr_5' := jb_01 hr_5b
  refine lv_istore_n (lv' := [(3, .int r_5), (2, .int r_3), (0, .ref r0), (1, .ref r1)]) hx hb dX11_request_23 rfl hl (by decide) rfl (fun ls hl => ?_)
  refine lv_aload_n hx hb dX11_request_24 rfl (lv_at hl 2 rfl) ?_
  obtain ⟨v_6, hv_6, hh_7⟩ := hh_4.pin (C := RX11) (T := TX11) (N := 19) hB13 rfl (by decide) hg_r0 (i := 11) (by decide) rfl
  clear hh_4
  obtain ⟨phase_8, rfl, hlophase_8, hhiphase_8⟩ := hv_6
  refine j7_read hx hb hown hK (C := RX11) (T := TX11) (N := 19) rfl hly_13_11 hlk_77 (hh_7.at 0 rfl) dX11_request_25 ?_
  refine lv_if_ne (tgt := 65) hx hb dX11_request_28 (by decide) (fun c_9 => ?_) (fun c_9 => ?_)
  · skip
    have c_9' : phase_8.toInt ≠ 0 := jb_ne (rfl) ((by decide)) c_9
    refine lv_aload_n hx hb dX11_request_65 rfl (lv_at hl 2 rfl) ?_
    refine j7_read hx hb hown hK (C := RX11) (T := TX11) (N := 19) rfl hly_13_11 hlk_77 (hh_7.at 0 rfl) dX11_request_66 ?_
    refine lv_if_ne (tgt := 83) hx hb dX11_request_69 (by decide) (fun c_10 => ?_) (fun c_10 => ?_)
    · skip
      have c_10' : phase_8.toInt ≠ 0 := jb_ne (rfl) ((by decide)) c_10
      refine lv_aload_n hx hb dX11_request_83 rfl (lv_at hl 2 rfl) ?_
      refine j7_read hx hb hown hK (C := RX11) (T := TX11) (N := 19) rfl hly_13_11 hlk_77 (hh_7.at 0 rfl) dX11_request_84 ?_
      refine lv_iconst (v := 2) hx hb dX11_request_87 (by decide) ?_
      refine lv_icmp_eq (tgt := 95) hx hb dX11_request_88 (by decide) (fun c_11 => ?_) (fun c_11 => ?_)
      · skip
        have c_11' : phase_8.toInt = 2 := jb_eq (rfl) ((by decide)) c_11
        refine lv_aload_n hx hb dX11_request_95 rfl (lv_at hl 2 rfl) ?_
        refine lv_aload_n hx hb dX11_request_96 rfl (lv_at hl 3 rfl) ?_
        refine lv_sipush (v := (-32600)) hx hb dX11_request_97 (by decide) ?_
        have hsz_12 := hh_7.2.2.2.2.2.1
        have htt_12 := hh_7.2.2.2.2.2.2.1
        refine W.room (fun hrc_12 hrs_12 => ?_)
        refine va_callv (A0 := jA base) (H0 := s.heap) (va_runV (As := [.ref r1, .int (-32600)]) (rest := []) ⟨hx, hb, hml, hown, hts⟩ (uX11_refuse l dC dI ca base B hB hAp hB2 hB4 hB10 hB13 hB196 G0 H_4 r0 r1 (-32600) bo pc pa n_pa ou LC LS) (cwV 2 hts (jgV (jWr_26 _ (List.mem_of_getElem? (i := 3) rfl)) (jWr_26 _ (List.mem_of_getElem? (i := 4) rfl)) (jWr_26 _ (List.mem_of_getElem? (i := 5) rfl)) (jWr_1 _ (List.mem_of_getElem? (i := 2) rfl)) (jWr_26 _ (List.mem_of_getElem? (i := 6) rfl))) rfl rfl rfl (by decide +kernel) ⟨by rw [← hR]; exact Nat.le_of_ble_eq_true rfl, by rw [← hR]; exact Nat.le_of_ble_eq_true rfl⟩) ⟨fun a U g mk q => by obtain ⟨q0, q1, q2, qK, q10, q11, q12, q13, q14, q15, q16, q17⟩ := q; exact ⟨q0, q1, q2, jG.calling g mk a qK, q10, q11, q12, q13, q14, q15, q16, q17⟩, hh_7.recv (C := RX11) (T := TX11) (N := 19) hB13 rfl (by decide) hg_r0 hK, fun U hU hW => ⟨rfl, hU, hh_7.2.1, hG.step hW hU hh_7.1, hg_r1, hg_r0, hg_bo, hg_pa, hg_ou, (hh_7.2.2.1.sub (L1 := [(r0, 13, 4, .ref bo), (bo, 2, 1, .int pc), (bo, 2, 0, .ref pa), (r0, 13, 3, .ref ou)]) [1, 2, 3, 4] rfl), (hh_7.2.2.2.2.2.2.2.2.sub (L1 := [(jFy, jYb dC dI G0)]) [1] rfl), (by omega), (by omega), by first | omega | (refine ⟨?_, ?_, ?_, ?_, ?_⟩ <;> (first | omega | rfl | assumption | decide | exact Or.inl rfl | exact Or.inr rfl | (simp only; omega)))⟩⟩ rfl rfl hl.1 rfl (lv_room (Nat.le_of_ble_eq_true rfl)) dX11_request_100 ⟨by rw [hRc]; omega, by rw [hRs]; omega⟩) hh_7.1 (fun q _ h => h) (fun q h => h) (fun u_12 t_12 H_12 locs_12 ht_12 hvm_12 hr_13 hb_12 hz_12 hk_12 hS_12 => ?_)
        obtain ⟨qc_12, qa_12, m_qa_12, G_12⟩ := u_12
        rw [ht_12] at hb_12
        simp only at hb_12
        obtain ⟨⟨hb_121, hb_122, hb_123, hb_124, hb_125, hb_126⟩, hgq_12_0, hN_12, hbO_12, hbE_12⟩ := hb_12
        have hh_12 : jSt (dC, dI) B base G0 G_12 EX11_request s.heap (0 + ((m_qa_12 - n_pa) / 16)) (0 + (2 * (m_qa_12 - n_pa))) [(bo, 2, 1, .int qc_12), (bo, 2, 0, .ref qa_12), (r0, 13, 11, .int phase_8), (r0, 13, 4, .ref bo), (r0, 13, 3, .ref ou), (r0, 13, 2, .ref js), (js, 6, 7, .int pv), (js, 6, 8, .int pu), (js, 6, 0, .ref wk), (js, 6, 1, .ref wi), (js, 6, 2, .ref wz), (js, 6, 5, .ref jks)] [(wk, 140, 1502, ca 1, fk), (wi, 141, 1502, ca 1, fi), (wz, 142, 1502, ca 1, fz), (jks, 145, 1502, ca 1, fs)] [(jFs11, jSef dC dI G0), (jFl, jLs dC dI ca G0 3 none)] H_12 locs_12 := (hh_7.callG hb_121 hb_122 hb_123 hb_124 hb_125 hS_12 rfl (L1 := [(r0, 13, 11, .int phase_8), (r0, 13, 4, .ref bo), (r0, 13, 3, .ref ou), (r0, 13, 2, .ref js), (js, 6, 7, .int pv), (js, 6, 8, .int pu), (js, 6, 0, .ref wk), (js, 6, 1, .ref wi), (js, 6, 2, .ref wz), (js, 6, 5, .ref jks)]) [0, 1, 4, 5, 6, 7, 8, 9, 10, 11] rfl rfl (M1 := [(wk, 140, 1502, ca 1, fk), (wi, 141, 1502, ca 1, fi), (wz, 142, 1502, ca 1, fz), (jks, 145, 1502, ca 1, fs)]) [0, 1, 2, 3] rfl rfl (I1 := [(jFs11, jSef dC dI G0), (jFl, jLs dC dI ca G0 3 none)]) [2, 3] rfl rfl).more hb_126
        have hNn_12 : (jNk [0, 1, 2, 3, 4, 5, 6, 7, 8, 9, 10, 11, 12, 13, 14, 15, 16]) G0 G_12 := (jNk.rf).tr hN_12
        have hg_14 := hb_122 _ _ hg_r0
        have hg_15 := hb_122 _ _ hg_r1
        have hg_16 := hb_122 _ _ hg_bo
        have hg_17 := hb_122 _ _ hg_ou
        have hg_18 := hb_122 _ _ hg_js
        have hg_19 := hb_122 _ _ hg_wk
        have hg_20 := hb_122 _ _ hg_wi
        have hg_21 := hb_122 _ _ hg_wz
        have hg_22 := hb_122 _ _ hg_jks
        have hd_23 := jSef.grow (hh_12.iv 0 rfl) hb_122 hN_12 (by decide)
        have hh_24 := hh_12.sub (L1 := [(bo, 2, 1, .int qc_12), (bo, 2, 0, .ref qa_12), (r0, 13, 11, .int phase_8), (r0, 13, 4, .ref bo), (r0, 13, 3, .ref ou), (r0, 13, 2, .ref js), (js, 6, 7, .int pv), (js, 6, 8, .int pu), (js, 6, 0, .ref wk), (js, 6, 1, .ref wi), (js, 6, 2, .ref wz), (js, 6, 5, .ref jks)]) [0, 1, 2, 3, 4, 5, 6, 7, 8, 9, 10, 11] rfl (M1 := [(wk, 140, 1502, ca 1, fk), (wi, 141, 1502, ca 1, fi), (wz, 142, 1502, ca 1, fz), (jks, 145, 1502, ca 1, fs)]) [0, 1, 2, 3] rfl (I1 := [(jFl, jLs dC dI ca G0 3 none)]) [1] rfl
        clear hh_12
        have hh_25 := hh_24.addI (jSef.ie hd_23)
        clear hh_24
        have hd_26 := jLs.grow (hh_25.iv 1 rfl) hb_122 hN_12 (by decide)
        have hh_27 := hh_25.sub (L1 := [(bo, 2, 1, .int qc_12), (bo, 2, 0, .ref qa_12), (r0, 13, 11, .int phase_8), (r0, 13, 4, .ref bo), (r0, 13, 3, .ref ou), (r0, 13, 2, .ref js), (js, 6, 7, .int pv), (js, 6, 8, .int pu), (js, 6, 0, .ref wk), (js, 6, 1, .ref wi), (js, 6, 2, .ref wz), (js, 6, 5, .ref jks)]) [0, 1, 2, 3, 4, 5, 6, 7, 8, 9, 10, 11] rfl (M1 := [(wk, 140, 1502, ca 1, fk), (wi, 141, 1502, ca 1, fi), (wz, 142, 1502, ca 1, fz), (jks, 145, 1502, ca 1, fs)]) [0, 1, 2, 3] rfl (I1 := [(jFs11, jSef dC dI G_12)]) [0] rfl
        clear hh_25
        have hh_28 := hh_27.addI (jLs.ie hd_26)
        clear hh_27
        have hh_29 := hh_28.addIs hbE_12
        have hd_30 := jOl.trL (hh_7.iv 0 rfl) hh_7.2.2.2.2.1 hbO_12 (by simp)
        have hh_31 := hh_29.addI (jOl.ie (dC := dC) (dI := dI) (G0 := G0) (k := 2) (rs := [bo, ou]) (H0 := s.heap) (F := [(2, 0), (2, 1)]) (C := RX0) (T := TX0) (N := 2) rfl (by decide) hh_29.2.2.2.2.1 (hd_30))
        clear hh_29
        try simp only at hr_13
        obtain ⟨hr_13_0, hr_13_1, hr_13_2, hr_13_3, hr_13_4⟩ := hr_13
        refine lv_goto (tgt := 212) hx hb dX11_request_103 (by decide) ?_
        have hsz_32 := hh_31.2.2.2.2.2.1
        have htt_32 := hh_31.2.2.2.2.2.2.1
        refine W.room (fun hrc_32 hrs_32 => ?_)
        refine W.widen (k := LC - s.heap.size) (n := LS - jTot s.heap) (by omega) (by omega) ?_
        rw [hQ]
        exact W.vret hx hb hr (fun t ht hW => ⟨⟨(qc_12, qa_12, m_qa_12, G_12), rfl, by (try dsimp only); exact ⟨(by first | omega | rfl | assumption | fail), (by first | omega | rfl | assumption | fail), (by first | omega | rfl | assumption | fail), (by first | omega | rfl | assumption | fail), (by first | assumption | fail | omega)⟩, ⟨hh_31.ra (by first | omega | (simp only; omega)) (by first | omega | (simp only; omega)) (M1 := [(bo, 2, 1, .int qc_12), (bo, 2, 0, .ref qa_12)]) [0, 1] rfl ht, hgq_12_0, hNn_12, by rw [ht]; exact hh_31.iv 0 rfl, by rw [ht]; exact hh_31.2.2.2.2.2.2.2.2.sub (L1 := [(jFy, jYb dC dI G_12), (jFs11, jSef dC dI G_12), (jFl, jLs dC dI ca G_12 3 none)]) [1, 3, 2] rfl⟩⟩, by rw [ht]; try exact hh_31.1.1, fun q h9 hq => by rw [ht]; try exact hh_31.1.2.1 q h9 hq⟩) hh_31.1.2.2 dX11_request_212
      · skip
        have c_11' : phase_8.toInt ≠ 2 := jb_eq_n (rfl) ((by decide)) c_11
        refine lv_iload_n hx hb dX11_request_91 rfl (lv_at hl 0 rfl) ?_
        refine lv_if_eq (tgt := 106) hx hb dX11_request_92 (by decide) (fun c_33 => ?_) (fun c_33 => ?_)
        · skip
          have c_33' : r_5.toInt = 0 := jb_eq (rfl) ((by decide)) c_33
          first | (have hr_3_2q := hr_3_2.resolve_left (by omega); clear hr_3_2) | (have hr_3_2q := hr_3_2.resolve_right (by omega); clear hr_3_2) | skip
          first | (have hr_5pq := hr_5p.resolve_left (by omega); clear hr_5p) | (have hr_5pq := hr_5p.resolve_right (by omega); clear hr_5p) | skip
          refine lv_aload_n hx hb dX11_request_106 rfl (lv_at hl 2 rfl) ?_
          refine j7_read hx hb hown hK (C := RX11) (T := TX11) (N := 19) rfl hly_13_2 hlk_28 (hh_7.at 5 rfl) dX11_request_107 ?_
          refine lv_iload_n hx hb dX11_request_110 rfl (lv_at hl 1 rfl) ?_
          refine j_ldcSw hx hb hown rstr303 dX11_request_111 ?_
          have hsz_34 := hh_7.2.2.2.2.2.1
          have htt_34 := hh_7.2.2.2.2.2.2.1
          refine W.room (fun hrc_34 hrs_34 => ?_)
          refine va_calli (A0 := jA base) (H0 := s.heap) (va_runV (As := [.int r_3, .ref str303]) (rest := []) ⟨hx, hb, hml, hown, hts⟩ (uX4_isTextQ l dC dI ca base B hB hAp hB6 hB140 hB141 hB142 hB146 G0 H_4 js r_3 str303 8 pv wk wi wz fk fi fz) (cwV 2 hts (jgV (jWr_27 _ (List.mem_of_getElem? (i := 1) rfl)) (jWr_27 _ (List.mem_of_getElem? (i := 2) rfl)) (jWr_27 _ (List.mem_of_getElem? (i := 3) rfl)) (jWr_1 _ (List.mem_of_getElem? (i := 22) rfl)) (jWr_27 _ (List.mem_of_getElem? (i := 4) rfl))) rfl rfl rfl (by decide +kernel) ⟨by rw [← hR]; exact Nat.le_of_ble_eq_true rfl, by rw [← hR]; exact Nat.le_of_ble_eq_true rfl⟩) ⟨fun a U g mk q => by obtain ⟨q0, q1, q2, qK, q10, q11, q12, q13, q14, q15, q16, q17⟩ := q; exact ⟨q0, q1, q2, jG.calling g mk a qK, (q10.moved (Vm.Alike.refl U.vm)), q11, q12, q13, q14, q15, q16, q17⟩, hh_7.recv (C := RX4) (T := TX4) (N := 12) hB6 rfl (by decide) hg_js hK, fun U hU hW => ⟨rfl, hU, hh_7.2.1, hG.step hW hU hh_7.1, (hstr303.moved hW.alike).kept hh_7.1.2.1, hg_js, hg_wk, hg_wi, hg_wz, (hh_7.2.2.1.sub (L1 := [(js, 6, 7, .int pv), (js, 6, 0, .ref wk), (js, 6, 1, .ref wi), (js, 6, 2, .ref wz)]) [6, 8, 9, 10] rfl), (hh_7.2.2.2.2.2.2.2.1.sub (L1 := [(wk, 140, 1502, ca 1, fk), (wi, 141, 1502, ca 1, fi), (wz, 142, 1502, ca 1, fz)]) [0, 1, 2] rfl), by first | omega | (refine ⟨?_, ?_, ?_, ?_⟩ <;> (first | omega | rfl | assumption | decide | exact Or.inl rfl | exact Or.inr rfl | (simp only; omega)))⟩⟩ rfl rfl hl.1 rfl (lv_room (Nat.le_of_ble_eq_true rfl)) dX11_request_114 ⟨by rw [hRc]; show _ + 0 ≤ _; omega, by rw [hRs]; show _ + 0 ≤ _; omega⟩) hh_7.1 (fun q _ h => h) (fun q h => h) (fun r_35 u_34 t_34 H_34 locs_34 ht_34 hvm_34 hr_35 hb_34 hz_34 hk_34 hS_34 => ?_)
          rw [ht_34] at hb_34
          obtain ⟨hb_34, hbF_34⟩ := hb_34
          obtain ⟨hb_341, hb_342, hb_343, hb_344, hb_345⟩ := hb_34
          have hh_34 : jSt (dC, dI) B base G0 G0 EX11_request s.heap 0 0 [(r0, 13, 11, .int phase_8), (r0, 13, 4, .ref bo), (bo, 2, 1, .int pc), (bo, 2, 0, .ref pa), (r0, 13, 3, .ref ou), (r0, 13, 2, .ref js), (js, 6, 7, .int pv), (js, 6, 8, .int pu), (js, 6, 0, .ref wk), (js, 6, 1, .ref wi), (js, 6, 2, .ref wz), (js, 6, 5, .ref jks)] [(wk, 140, 1502, ca 1, fk), (wi, 141, 1502, ca 1, fi), (wz, 142, 1502, ca 1, fz), (jks, 145, 1502, ca 1, fs)] [([(2, 0), (2, 1)], jOl (dC, dI) G0 2 [bo, ou] s.heap), (jFy, jYb dC dI G0), (jFs11, jSef dC dI G0), (jFl, jLs dC dI ca G0 3 none)] H_34 locs_34 := ((hh_7.call hb_341 hb_342 hb_343 hb_344 hS_34 rfl (L1 := [(r0, 13, 11, .int phase_8), (r0, 13, 4, .ref bo), (bo, 2, 1, .int pc), (bo, 2, 0, .ref pa), (r0, 13, 3, .ref ou), (r0, 13, 2, .ref js), (js, 6, 7, .int pv), (js, 6, 8, .int pu), (js, 6, 0, .ref wk), (js, 6, 1, .ref wi), (js, 6, 2, .ref wz), (js, 6, 5, .ref jks)]) [0, 1, 2, 3, 4, 5, 6, 7, 8, 9, 10, 11] rfl rfl (M1 := [(wk, 140, 1502, ca 1, fk), (wi, 141, 1502, ca 1, fi), (wz, 142, 1502, ca 1, fz), (jks, 145, 1502, ca 1, fs)]) [0, 1, 2, 3] rfl rfl (I1 := [([(2, 0), (2, 1)], jOl (dC, dI) G0 2 [bo, ou] s.heap), (jFy, jYb dC dI G0), (jFs11, jSef dC dI G0), (jFl, jLs dC dI ca G0 3 none)]) [0, 1, 2, 3] rfl rfl).more hb_345)
          clear hh_7 ht_34 hvm_34 hz_34 hk_34 hS_34 hb_341 hb_342 hb_343 hb_344 hb_345
          obtain ⟨hr_35b, hr_35p⟩ := hr_35
          have hr_35' := jb_01 hr_35b
          refine lv_if_eq (tgt := 150) hx hb dX11_request_117 (by decide) (fun c_36 => ?_) (fun c_36 => ?_)
          · skip
            have c_36' : r_35.toInt = 0 := jb_eq (rfl) ((by decide)) c_36
            first | (have hr_3_2q := hr_3_2.resolve_left (by omega); clear hr_3_2) | (have hr_3_2q := hr_3_2.resolve_right (by omega); clear hr_3_2) | skip
            first | (have hr_5pq := hr_5p.resolve_left (by omega); clear hr_5p) | (have hr_5pq := hr_5p.resolve_right (by omega); clear hr_5p) | skip
            first | (have hr_35pq := hr_35p.resolve_left (by omega); clear hr_35p) | (have hr_35pq := hr_35p.resolve_right (by omega); clear hr_35p) | try clear hr_35p
            refine lv_aload_n hx hb dX11_request_150 rfl (lv_at hl 2 rfl) ?_
            refine j7_read hx hb hown hK (C := RX11) (T := TX11) (N := 19) rfl hly_13_2 hlk_28 (hh_34.at 5 rfl) dX11_request_151 ?_
            refine lv_iload_n hx hb dX11_request_154 rfl (lv_at hl 1 rfl) ?_
            refine j_ldcSw hx hb hown rstr307 dX11_request_155 ?_
            have hsz_37 := hh_34.2.2.2.2.2.1
            have htt_37 := hh_34.2.2.2.2.2.2.1
            refine W.room (fun hrc_37 hrs_37 => ?_)
            refine va_calli (A0 := jA base) (H0 := s.heap) (va_runV (As := [.int r_3, .ref str307]) (rest := []) ⟨hx, hb, hml, hown, hts⟩ (uX4_isTextQ l dC dI ca base B hB hAp hB6 hB140 hB141 hB142 hB146 G0 H_34 js r_3 str307 11 pv wk wi wz fk fi fz) (cwV 2 hts (jgV (jWr_27 _ (List.mem_of_getElem? (i := 1) rfl)) (jWr_27 _ (List.mem_of_getElem? (i := 2) rfl)) (jWr_27 _ (List.mem_of_getElem? (i := 3) rfl)) (jWr_1 _ (List.mem_of_getElem? (i := 22) rfl)) (jWr_27 _ (List.mem_of_getElem? (i := 4) rfl))) rfl rfl rfl (by decide +kernel) ⟨by rw [← hR]; exact Nat.le_of_ble_eq_true rfl, by rw [← hR]; exact Nat.le_of_ble_eq_true rfl⟩) ⟨fun a U g mk q => by obtain ⟨q0, q1, q2, qK, q10, q11, q12, q13, q14, q15, q16, q17⟩ := q; exact ⟨q0, q1, q2, jG.calling g mk a qK, (q10.moved (Vm.Alike.refl U.vm)), q11, q12, q13, q14, q15, q16, q17⟩, hh_34.recv (C := RX4) (T := TX4) (N := 12) hB6 rfl (by decide) hg_js hK, fun U hU hW => ⟨rfl, hU, hh_34.2.1, hG.step hW hU hh_34.1, (hstr307.moved hW.alike).kept hh_34.1.2.1, hg_js, hg_wk, hg_wi, hg_wz, (hh_34.2.2.1.sub (L1 := [(js, 6, 7, .int pv), (js, 6, 0, .ref wk), (js, 6, 1, .ref wi), (js, 6, 2, .ref wz)]) [6, 8, 9, 10] rfl), (hh_34.2.2.2.2.2.2.2.1.sub (L1 := [(wk, 140, 1502, ca 1, fk), (wi, 141, 1502, ca 1, fi), (wz, 142, 1502, ca 1, fz)]) [0, 1, 2] rfl), by first | omega | (refine ⟨?_, ?_, ?_, ?_⟩ <;> (first | omega | rfl | assumption | decide | exact Or.inl rfl | exact Or.inr rfl | (simp only; omega)))⟩⟩ rfl rfl hl.1 rfl (lv_room (Nat.le_of_ble_eq_true rfl)) dX11_request_158 ⟨by rw [hRc]; show _ + 0 ≤ _; omega, by rw [hRs]; show _ + 0 ≤ _; omega⟩) hh_34.1 (fun q _ h => h) (fun q h => h) (fun r_38 u_37 t_37 H_37 locs_37 ht_37 hvm_37 hr_38 hb_37 hz_37 hk_37 hS_37 => ?_)
            rw [ht_37] at hb_37
            obtain ⟨hb_37, hbF_37⟩ := hb_37
            obtain ⟨hb_371, hb_372, hb_373, hb_374, hb_375⟩ := hb_37
            have hh_37 : jSt (dC, dI) B base G0 G0 EX11_request s.heap 0 0 [(r0, 13, 11, .int phase_8), (r0, 13, 4, .ref bo), (bo, 2, 1, .int pc), (bo, 2, 0, .ref pa), (r0, 13, 3, .ref ou), (r0, 13, 2, .ref js), (js, 6, 7, .int pv), (js, 6, 8, .int pu), (js, 6, 0, .ref wk), (js, 6, 1, .ref wi), (js, 6, 2, .ref wz), (js, 6, 5, .ref jks)] [(wk, 140, 1502, ca 1, fk), (wi, 141, 1502, ca 1, fi), (wz, 142, 1502, ca 1, fz), (jks, 145, 1502, ca 1, fs)] [([(2, 0), (2, 1)], jOl (dC, dI) G0 2 [bo, ou] s.heap), (jFy, jYb dC dI G0), (jFs11, jSef dC dI G0), (jFl, jLs dC dI ca G0 3 none)] H_37 locs_37 := ((hh_34.call hb_371 hb_372 hb_373 hb_374 hS_37 rfl (L1 := [(r0, 13, 11, .int phase_8), (r0, 13, 4, .ref bo), (bo, 2, 1, .int pc), (bo, 2, 0, .ref pa), (r0, 13, 3, .ref ou), (r0, 13, 2, .ref js), (js, 6, 7, .int pv), (js, 6, 8, .int pu), (js, 6, 0, .ref wk), (js, 6, 1, .ref wi), (js, 6, 2, .ref wz), (js, 6, 5, .ref jks)]) [0, 1, 2, 3, 4, 5, 6, 7, 8, 9, 10, 11] rfl rfl (M1 := [(wk, 140, 1502, ca 1, fk), (wi, 141, 1502, ca 1, fi), (wz, 142, 1502, ca 1, fz), (jks, 145, 1502, ca 1, fs)]) [0, 1, 2, 3] rfl rfl (I1 := [([(2, 0), (2, 1)], jOl (dC, dI) G0 2 [bo, ou] s.heap), (jFy, jYb dC dI G0), (jFs11, jSef dC dI G0), (jFl, jLs dC dI ca G0 3 none)]) [0, 1, 2, 3] rfl rfl).more hb_375)
            clear hh_34 ht_37 hvm_37 hz_37 hk_37 hS_37 hb_371 hb_372 hb_373 hb_374 hb_375
            obtain ⟨hr_38b, hr_38p⟩ := hr_38
            have hr_38' := jb_01 hr_38b
            refine lv_if_eq (tgt := 177) hx hb dX11_request_161 (by decide) (fun c_39 => ?_) (fun c_39 => ?_)
            · skip
              have c_39' : r_38.toInt = 0 := jb_eq (rfl) ((by decide)) c_39
              first | (have hr_3_2q := hr_3_2.resolve_left (by omega); clear hr_3_2) | (have hr_3_2q := hr_3_2.resolve_right (by omega); clear hr_3_2) | skip
              first | (have hr_5pq := hr_5p.resolve_left (by omega); clear hr_5p) | (have hr_5pq := hr_5p.resolve_right (by omega); clear hr_5p) | skip
              first | (have hr_38pq := hr_38p.resolve_left (by omega); clear hr_38p) | (have hr_38pq := hr_38p.resolve_right (by omega); clear hr_38p) | try clear hr_38p
              refine lv_aload_n hx hb dX11_request_177 rfl (lv_at hl 2 rfl) ?_
              refine j7_read hx hb hown hK (C := RX11) (T := TX11) (N := 19) rfl hly_13_2 hlk_28 (hh_37.at 5 rfl) dX11_request_178 ?_
              refine lv_iload_n hx hb dX11_request_181 rfl (lv_at hl 1 rfl) ?_
              refine j_ldcSw hx hb hown rstr317 dX11_request_182 ?_
              have hsz_40 := hh_37.2.2.2.2.2.1
              have htt_40 := hh_37.2.2.2.2.2.2.1
              refine W.room (fun hrc_40 hrs_40 => ?_)
              refine va_calli (A0 := jA base) (H0 := s.heap) (va_runV (As := [.int r_3, .ref str317]) (rest := []) ⟨hx, hb, hml, hown, hts⟩ (uX4_isTextQ l dC dI ca base B hB hAp hB6 hB140 hB141 hB142 hB146 G0 H_37 js r_3 str317 15 pv wk wi wz fk fi fz) (cwV 2 hts (jgV (jWr_27 _ (List.mem_of_getElem? (i := 1) rfl)) (jWr_27 _ (List.mem_of_getElem? (i := 2) rfl)) (jWr_27 _ (List.mem_of_getElem? (i := 3) rfl)) (jWr_1 _ (List.mem_of_getElem? (i := 22) rfl)) (jWr_27 _ (List.mem_of_getElem? (i := 4) rfl))) rfl rfl rfl (by decide +kernel) ⟨by rw [← hR]; exact Nat.le_of_ble_eq_true rfl, by rw [← hR]; exact Nat.le_of_ble_eq_true rfl⟩) ⟨fun a U g mk q => by obtain ⟨q0, q1, q2, qK, q10, q11, q12, q13, q14, q15, q16, q17⟩ := q; exact ⟨q0, q1, q2, jG.calling g mk a qK, (q10.moved (Vm.Alike.refl U.vm)), q11, q12, q13, q14, q15, q16, q17⟩, hh_37.recv (C := RX4) (T := TX4) (N := 12) hB6 rfl (by decide) hg_js hK, fun U hU hW => ⟨rfl, hU, hh_37.2.1, hG.step hW hU hh_37.1, (hstr317.moved hW.alike).kept hh_37.1.2.1, hg_js, hg_wk, hg_wi, hg_wz, (hh_37.2.2.1.sub (L1 := [(js, 6, 7, .int pv), (js, 6, 0, .ref wk), (js, 6, 1, .ref wi), (js, 6, 2, .ref wz)]) [6, 8, 9, 10] rfl), (hh_37.2.2.2.2.2.2.2.1.sub (L1 := [(wk, 140, 1502, ca 1, fk), (wi, 141, 1502, ca 1, fi), (wz, 142, 1502, ca 1, fz)]) [0, 1, 2] rfl), by first | omega | (refine ⟨?_, ?_, ?_, ?_⟩ <;> (first | omega | rfl | assumption | decide | exact Or.inl rfl | exact Or.inr rfl | (simp only; omega)))⟩⟩ rfl rfl hl.1 rfl (lv_room (Nat.le_of_ble_eq_true rfl)) dX11_request_185 ⟨by rw [hRc]; show _ + 0 ≤ _; omega, by rw [hRs]; show _ + 0 ≤ _; omega⟩) hh_37.1 (fun q _ h => h) (fun q h => h) (fun r_41 u_40 t_40 H_40 locs_40 ht_40 hvm_40 hr_41 hb_40 hz_40 hk_40 hS_40 => ?_)
              rw [ht_40] at hb_40
              obtain ⟨hb_40, hbF_40⟩ := hb_40
              obtain ⟨hb_401, hb_402, hb_403, hb_404, hb_405⟩ := hb_40
              have hh_40 : jSt (dC, dI) B base G0 G0 EX11_request s.heap 0 0 [(r0, 13, 11, .int phase_8), (r0, 13, 4, .ref bo), (bo, 2, 1, .int pc), (bo, 2, 0, .ref pa), (r0, 13, 3, .ref ou), (r0, 13, 2, .ref js), (js, 6, 7, .int pv), (js, 6, 8, .int pu), (js, 6, 0, .ref wk), (js, 6, 1, .ref wi), (js, 6, 2, .ref wz), (js, 6, 5, .ref jks)] [(wk, 140, 1502, ca 1, fk), (wi, 141, 1502, ca 1, fi), (wz, 142, 1502, ca 1, fz), (jks, 145, 1502, ca 1, fs)] [([(2, 0), (2, 1)], jOl (dC, dI) G0 2 [bo, ou] s.heap), (jFy, jYb dC dI G0), (jFs11, jSef dC dI G0), (jFl, jLs dC dI ca G0 3 none)] H_40 locs_40 := ((hh_37.call hb_401 hb_402 hb_403 hb_404 hS_40 rfl (L1 := [(r0, 13, 11, .int phase_8), (r0, 13, 4, .ref bo), (bo, 2, 1, .int pc), (bo, 2, 0, .ref pa), (r0, 13, 3, .ref ou), (r0, 13, 2, .ref js), (js, 6, 7, .int pv), (js, 6, 8, .int pu), (js, 6, 0, .ref wk), (js, 6, 1, .ref wi), (js, 6, 2, .ref wz), (js, 6, 5, .ref jks)]) [0, 1, 2, 3, 4, 5, 6, 7, 8, 9, 10, 11] rfl rfl (M1 := [(wk, 140, 1502, ca 1, fk), (wi, 141, 1502, ca 1, fi), (wz, 142, 1502, ca 1, fz), (jks, 145, 1502, ca 1, fs)]) [0, 1, 2, 3] rfl rfl (I1 := [([(2, 0), (2, 1)], jOl (dC, dI) G0 2 [bo, ou] s.heap), (jFy, jYb dC dI G0), (jFs11, jSef dC dI G0), (jFl, jLs dC dI ca G0 3 none)]) [0, 1, 2, 3] rfl rfl).more hb_405)
              clear hh_37 ht_40 hvm_40 hz_40 hk_40 hS_40 hb_401 hb_402 hb_403 hb_404 hb_405
              obtain ⟨hr_41b, hr_41p⟩ := hr_41
              have hr_41' := jb_01 hr_41b
              refine lv_if_eq (tgt := 204) hx hb dX11_request_188 (by decide) (fun c_42 => ?_) (fun c_42 => ?_)
              · skip
                have c_42' : r_41.toInt = 0 := jb_eq (rfl) ((by decide)) c_42
                first | (have hr_3_2q := hr_3_2.resolve_left (by omega); clear hr_3_2) | (have hr_3_2q := hr_3_2.resolve_right (by omega); clear hr_3_2) | skip
                first | (have hr_5pq := hr_5p.resolve_left (by omega); clear hr_5p) | (have hr_5pq := hr_5p.resolve_right (by omega); clear hr_5p) | skip
                first | (have hr_41pq := hr_41p.resolve_left (by omega); clear hr_41p) | (have hr_41pq := hr_41p.resolve_right (by omega); clear hr_41p) | try clear hr_41p
                refine lv_aload_n hx hb dX11_request_204 rfl (lv_at hl 2 rfl) ?_
                refine lv_aload_n hx hb dX11_request_205 rfl (lv_at hl 3 rfl) ?_
                refine lv_sipush (v := (-32601)) hx hb dX11_request_206 (by decide) ?_
                have hsz_43 := hh_40.2.2.2.2.2.1
                have htt_43 := hh_40.2.2.2.2.2.2.1
                refine W.room (fun hrc_43 hrs_43 => ?_)
                refine va_callv (A0 := jA base) (H0 := s.heap) (va_runV (As := [.ref r1, .int (-32601)]) (rest := []) ⟨hx, hb, hml, hown, hts⟩ (uX11_refuse l dC dI ca base B hB hAp hB2 hB4 hB10 hB13 hB196 G0 H_40 r0 r1 (-32601) bo pc pa n_pa ou LC LS) (cwV 2 hts (jgV (jWr_26 _ (List.mem_of_getElem? (i := 3) rfl)) (jWr_26 _ (List.mem_of_getElem? (i := 4) rfl)) (jWr_26 _ (List.mem_of_getElem? (i := 5) rfl)) (jWr_1 _ (List.mem_of_getElem? (i := 2) rfl)) (jWr_26 _ (List.mem_of_getElem? (i := 6) rfl))) rfl rfl rfl (by decide +kernel) ⟨by rw [← hR]; exact Nat.le_of_ble_eq_true rfl, by rw [← hR]; exact Nat.le_of_ble_eq_true rfl⟩) ⟨fun a U g mk q => by obtain ⟨q0, q1, q2, qK, q10, q11, q12, q13, q14, q15, q16, q17⟩ := q; exact ⟨q0, q1, q2, jG.calling g mk a qK, q10, q11, q12, q13, q14, q15, q16, q17⟩, hh_40.recv (C := RX11) (T := TX11) (N := 19) hB13 rfl (by decide) hg_r0 hK, fun U hU hW => ⟨rfl, hU, hh_40.2.1, hG.step hW hU hh_40.1, hg_r1, hg_r0, hg_bo, hg_pa, hg_ou, (hh_40.2.2.1.sub (L1 := [(r0, 13, 4, .ref bo), (bo, 2, 1, .int pc), (bo, 2, 0, .ref pa), (r0, 13, 3, .ref ou)]) [1, 2, 3, 4] rfl), (hh_40.2.2.2.2.2.2.2.2.sub (L1 := [(jFy, jYb dC dI G0)]) [1] rfl), (by omega), (by omega), by first | omega | (refine ⟨?_, ?_, ?_, ?_, ?_⟩ <;> (first | omega | rfl | assumption | decide | exact Or.inl rfl | exact Or.inr rfl | (simp only; omega)))⟩⟩ rfl rfl hl.1 rfl (lv_room (Nat.le_of_ble_eq_true rfl)) dX11_request_209 ⟨by rw [hRc]; omega, by rw [hRs]; omega⟩) hh_40.1 (fun q _ h => h) (fun q h => h) (fun u_43 t_43 H_43 locs_43 ht_43 hvm_43 hr_44 hb_43 hz_43 hk_43 hS_43 => ?_)
                obtain ⟨qc_43, qa_43, m_qa_43, G_43⟩ := u_43
                rw [ht_43] at hb_43
                simp only at hb_43
                obtain ⟨⟨hb_431, hb_432, hb_433, hb_434, hb_435, hb_436⟩, hgq_43_0, hN_43, hbO_43, hbE_43⟩ := hb_43
                have hh_43 : jSt (dC, dI) B base G0 G_43 EX11_request s.heap (0 + ((m_qa_43 - n_pa) / 16)) (0 + (2 * (m_qa_43 - n_pa))) [(bo, 2, 1, .int qc_43), (bo, 2, 0, .ref qa_43), (r0, 13, 11, .int phase_8), (r0, 13, 4, .ref bo), (r0, 13, 3, .ref ou), (r0, 13, 2, .ref js), (js, 6, 7, .int pv), (js, 6, 8, .int pu), (js, 6, 0, .ref wk), (js, 6, 1, .ref wi), (js, 6, 2, .ref wz), (js, 6, 5, .ref jks)] [(wk, 140, 1502, ca 1, fk), (wi, 141, 1502, ca 1, fi), (wz, 142, 1502, ca 1, fz), (jks, 145, 1502, ca 1, fs)] [(jFs11, jSef dC dI G0), (jFl, jLs dC dI ca G0 3 none)] H_43 locs_43 := (hh_40.callG hb_431 hb_432 hb_433 hb_434 hb_435 hS_43 rfl (L1 := [(r0, 13, 11, .int phase_8), (r0, 13, 4, .ref bo), (r0, 13, 3, .ref ou), (r0, 13, 2, .ref js), (js, 6, 7, .int pv), (js, 6, 8, .int pu), (js, 6, 0, .ref wk), (js, 6, 1, .ref wi), (js, 6, 2, .ref wz), (js, 6, 5, .ref jks)]) [0, 1, 4, 5, 6, 7, 8, 9, 10, 11] rfl rfl (M1 := [(wk, 140, 1502, ca 1, fk), (wi, 141, 1502, ca 1, fi), (wz, 142, 1502, ca 1, fz), (jks, 145, 1502, ca 1, fs)]) [0, 1, 2, 3] rfl rfl (I1 := [(jFs11, jSef dC dI G0), (jFl, jLs dC dI ca G0 3 none)]) [2, 3] rfl rfl).more hb_436
                have hNn_43 : (jNk [0, 1, 2, 3, 4, 5, 6, 7, 8, 9, 10, 11, 12, 13, 14, 15, 16]) G0 G_43 := (jNk.rf).tr hN_43
                have hg_45 := hb_432 _ _ hg_r0
                have hg_46 := hb_432 _ _ hg_r1
                have hg_47 := hb_432 _ _ hg_bo
                have hg_48 := hb_432 _ _ hg_ou
                have hg_49 := hb_432 _ _ hg_js
                have hg_50 := hb_432 _ _ hg_wk
                have hg_51 := hb_432 _ _ hg_wi
                have hg_52 := hb_432 _ _ hg_wz
                have hg_53 := hb_432 _ _ hg_jks
                have hd_54 := jSef.grow (hh_43.iv 0 rfl) hb_432 hN_43 (by decide)
                have hh_55 := hh_43.sub (L1 := [(bo, 2, 1, .int qc_43), (bo, 2, 0, .ref qa_43), (r0, 13, 11, .int phase_8), (r0, 13, 4, .ref bo), (r0, 13, 3, .ref ou), (r0, 13, 2, .ref js), (js, 6, 7, .int pv), (js, 6, 8, .int pu), (js, 6, 0, .ref wk), (js, 6, 1, .ref wi), (js, 6, 2, .ref wz), (js, 6, 5, .ref jks)]) [0, 1, 2, 3, 4, 5, 6, 7, 8, 9, 10, 11] rfl (M1 := [(wk, 140, 1502, ca 1, fk), (wi, 141, 1502, ca 1, fi), (wz, 142, 1502, ca 1, fz), (jks, 145, 1502, ca 1, fs)]) [0, 1, 2, 3] rfl (I1 := [(jFl, jLs dC dI ca G0 3 none)]) [1] rfl
                clear hh_43
                have hh_56 := hh_55.addI (jSef.ie hd_54)
                clear hh_55
                have hd_57 := jLs.grow (hh_56.iv 1 rfl) hb_432 hN_43 (by decide)
                have hh_58 := hh_56.sub (L1 := [(bo, 2, 1, .int qc_43), (bo, 2, 0, .ref qa_43), (r0, 13, 11, .int phase_8), (r0, 13, 4, .ref bo), (r0, 13, 3, .ref ou), (r0, 13, 2, .ref js), (js, 6, 7, .int pv), (js, 6, 8, .int pu), (js, 6, 0, .ref wk), (js, 6, 1, .ref wi), (js, 6, 2, .ref wz), (js, 6, 5, .ref jks)]) [0, 1, 2, 3, 4, 5, 6, 7, 8, 9, 10, 11] rfl (M1 := [(wk, 140, 1502, ca 1, fk), (wi, 141, 1502, ca 1, fi), (wz, 142, 1502, ca 1, fz), (jks, 145, 1502, ca 1, fs)]) [0, 1, 2, 3] rfl (I1 := [(jFs11, jSef dC dI G_43)]) [0] rfl
                clear hh_56
                have hh_59 := hh_58.addI (jLs.ie hd_57)
                clear hh_58
                have hh_60 := hh_59.addIs hbE_43
                have hd_61 := jOl.trL (hh_40.iv 0 rfl) hh_40.2.2.2.2.1 hbO_43 (by simp)
                have hh_62 := hh_60.addI (jOl.ie (dC := dC) (dI := dI) (G0 := G0) (k := 2) (rs := [bo, ou]) (H0 := s.heap) (F := [(2, 0), (2, 1)]) (C := RX0) (T := TX0) (N := 2) rfl (by decide) hh_60.2.2.2.2.1 (hd_61))
                clear hh_60
                try simp only at hr_44
                obtain ⟨hr_44_0, hr_44_1, hr_44_2, hr_44_3, hr_44_4⟩ := hr_44
                have hsz_63 := hh_62.2.2.2.2.2.1
                have htt_63 := hh_62.2.2.2.2.2.2.1
                refine W.room (fun hrc_63 hrs_63 => ?_)
                refine W.widen (k := LC - s.heap.size) (n := LS - jTot s.heap) (by omega) (by omega) ?_
                rw [hQ]
                exact W.vret hx hb hr (fun t ht hW => ⟨⟨(qc_43, qa_43, m_qa_43, G_43), rfl, by (try dsimp only); exact ⟨(by first | omega | rfl | assumption | fail), (by first | omega | rfl | assumption | fail), (by first | omega | rfl | assumption | fail), (by first | omega | rfl | assumption | fail), (by first | assumption | fail | omega)⟩, ⟨hh_62.ra (by first | omega | (simp only; omega)) (by first | omega | (simp only; omega)) (M1 := [(bo, 2, 1, .int qc_43), (bo, 2, 0, .ref qa_43)]) [0, 1] rfl ht, hgq_43_0, hNn_43, by rw [ht]; exact hh_62.iv 0 rfl, by rw [ht]; exact hh_62.2.2.2.2.2.2.2.2.sub (L1 := [(jFy, jYb dC dI G_43), (jFs11, jSef dC dI G_43), (jFl, jLs dC dI ca G_43 3 none)]) [1, 3, 2] rfl⟩⟩, by rw [ht]; try exact hh_62.1.1, fun q h9 hq => by rw [ht]; try exact hh_62.1.2.1 q h9 hq⟩) hh_62.1.2.2 dX11_request_212
              · skip
                have c_42' : r_41.toInt ≠ 0 := jb_eq_n (rfl) ((by decide)) c_42
                first | (have hr_3_2q := hr_3_2.resolve_left (by omega); clear hr_3_2) | (have hr_3_2q := hr_3_2.resolve_right (by omega); clear hr_3_2) | skip
                first | (have hr_5pq := hr_5p.resolve_left (by omega); clear hr_5p) | (have hr_5pq := hr_5p.resolve_right (by omega); clear hr_5p) | skip
                first | (have hr_41pq := hr_41p.resolve_left (by omega); clear hr_41p) | (have hr_41pq := hr_41p.resolve_right (by omega); clear hr_41p) | try clear hr_41p
                refine lv_aload_n hx hb dX11_request_191 rfl (lv_at hl 2 rfl) ?_
                refine lv_aload_n hx hb dX11_request_192 rfl (lv_at hl 3 rfl) ?_
                refine lv_aload_n hx hb dX11_request_193 rfl (lv_at hl 2 rfl) ?_
                refine lv_aload_n hx hb dX11_request_194 rfl (lv_at hl 3 rfl) ?_
                have hsz_64 := hh_40.2.2.2.2.2.1
                have htt_64 := hh_40.2.2.2.2.2.2.1
                refine W.room (fun hrc_64 hrs_64 => ?_)
                refine va_calli (A0 := jA base) (H0 := s.heap) (va_runV (As := [.ref r1]) (rest := [.ref r1, .ref r0]) ⟨hx, hb, hml, hown, hts⟩ (uX11_aimAtName l dC dI ca base B hB hAp hB1 hB3 hB6 hB7 hB8 hB10 hB13 hB101 hB102 hB132 hB133 hB140 hB141 hB142 hB143 hB144 hB145 hB146 hB221 G0 H_40 r0 r1 js pv pu wk wi wz jks fk fi fz fs LC LS) (cwV 1 hts (jgV (jWr_35 _ (List.mem_of_getElem? (i := 0) rfl)) (jWr_35 _ (List.mem_of_getElem? (i := 1) rfl)) (jWr_35 _ (List.mem_of_getElem? (i := 2) rfl)) (jWr_1 _ (List.mem_of_getElem? (i := 2) rfl)) (jWr_35 _ (List.mem_of_getElem? (i := 3) rfl))) rfl rfl rfl (by decide +kernel) ⟨by rw [← hR]; exact Nat.le_of_ble_eq_true rfl, by rw [← hR]; exact Nat.le_of_ble_eq_true rfl⟩) ⟨fun a U g mk q => by obtain ⟨q0, q1, q2, qK, q10, q11, q12, q13, q14, q15, q16, q17, q18, q19, q20, q21⟩ := q; exact ⟨q0, q1, q2, jG.calling g mk a qK, (jK7.calling g mk a q10), q11, q12, q13, q14, q15, q16, q17, q18, q19, q20, q21⟩, hh_40.recv (C := RX11) (T := TX11) (N := 19) hB13 rfl (by decide) hg_r0 hK, fun U hU hW => ⟨rfl, hU, hh_40.2.1, hG.step hW hU hh_40.1, (hK7.step hW hU hh_40.1), hg_r0, hg_r1, hg_js, hg_wk, hg_wi, hg_wz, hg_jks, (hh_40.2.2.1.sub (L1 := [(r0, 13, 2, .ref js), (js, 6, 7, .int pv), (js, 6, 8, .int pu), (js, 6, 0, .ref wk), (js, 6, 1, .ref wi), (js, 6, 2, .ref wz), (js, 6, 5, .ref jks)]) [5, 6, 7, 8, 9, 10, 11] rfl), (hh_40.2.2.2.2.2.2.2.1.sub (L1 := [(wk, 140, 1502, ca 1, fk), (wi, 141, 1502, ca 1, fi), (wz, 142, 1502, ca 1, fz), (jks, 145, 1502, ca 1, fs)]) [0, 1, 2, 3] rfl), (hh_40.2.2.2.2.2.2.2.2.sub (L1 := [(jFl, jLs dC dI ca G0 3 none)]) [3] rfl), (by omega), (by omega), by first | omega | (refine ⟨?_, ?_, ?_, ?_, ?_, ?_⟩ <;> (first | omega | rfl | assumption | decide | exact Or.inl rfl | exact Or.inr rfl | (simp only; omega)))⟩⟩ rfl rfl hl.1 rfl (lv_room (Nat.le_of_ble_eq_true rfl)) dX11_request_195 ⟨by rw [hRc]; omega, by rw [hRs]; omega⟩) hh_40.1 (fun q _ h => h) (fun q h => h) (fun r_65 u_64 t_64 H_64 locs_64 ht_64 hvm_64 hr_65 hb_64 hz_64 hk_64 hS_64 => ?_)
                rw [ht_64] at hb_64
                obtain ⟨G_64, rfl⟩ : ∃ z, z = u_64 := ⟨_, rfl⟩
                try simp only at hb_64
                obtain ⟨⟨hb_641, hb_642, hb_643, hb_644, hb_645, hb_646⟩, hN_64, hbE_64⟩ := hb_64
                have hh_64 : jSt (dC, dI) B base G0 G_64 EX11_request s.heap (0 + (1)) (0 + ((pu.toInt : Int).toNat)) [(r0, 13, 11, .int phase_8), (r0, 13, 4, .ref bo), (bo, 2, 1, .int pc), (bo, 2, 0, .ref pa), (r0, 13, 3, .ref ou), (r0, 13, 2, .ref js), (js, 6, 7, .int pv), (js, 6, 8, .int pu), (js, 6, 0, .ref wk), (js, 6, 1, .ref wi), (js, 6, 2, .ref wz), (js, 6, 5, .ref jks)] [(wk, 140, 1502, ca 1, fk), (wi, 141, 1502, ca 1, fi), (wz, 142, 1502, ca 1, fz), (jks, 145, 1502, ca 1, fs)] [([(2, 0), (2, 1)], jOl (dC, dI) G0 2 [bo, ou] s.heap), (jFy, jYb dC dI G0), (jFs11, jSef dC dI G0)] H_64 locs_64 := (hh_40.callG hb_641 hb_642 hb_643 hb_644 hb_645 hS_64 rfl (L1 := [(r0, 13, 11, .int phase_8), (r0, 13, 4, .ref bo), (bo, 2, 1, .int pc), (bo, 2, 0, .ref pa), (r0, 13, 3, .ref ou), (r0, 13, 2, .ref js), (js, 6, 7, .int pv), (js, 6, 8, .int pu), (js, 6, 0, .ref wk), (js, 6, 1, .ref wi), (js, 6, 2, .ref wz), (js, 6, 5, .ref jks)]) [0, 1, 2, 3, 4, 5, 6, 7, 8, 9, 10, 11] rfl rfl (M1 := [(wk, 140, 1502, ca 1, fk), (wi, 141, 1502, ca 1, fi), (wz, 142, 1502, ca 1, fz), (jks, 145, 1502, ca 1, fs)]) [0, 1, 2, 3] rfl rfl (I1 := [([(2, 0), (2, 1)], jOl (dC, dI) G0 2 [bo, ou] s.heap), (jFy, jYb dC dI G0), (jFs11, jSef dC dI G0)]) [0, 1, 2] rfl rfl).more hb_646
                have hNn_64 : (jNk [0, 1, 2, 3, 4, 5, 6, 7, 8, 9, 10, 11, 12, 13, 14, 15, 16]) G0 G_64 := (jNk.rf).tr hN_64
                have hg_66 := hb_642 _ _ hg_r0
                have hg_67 := hb_642 _ _ hg_r1
                have hg_68 := hb_642 _ _ hg_bo
                have hg_69 := hb_642 _ _ hg_pa
                have hg_70 := hb_642 _ _ hg_ou
                have hg_71 := hb_642 _ _ hg_js
                have hg_72 := hb_642 _ _ hg_wk
                have hg_73 := hb_642 _ _ hg_wi
                have hg_74 := hb_642 _ _ hg_wz
                have hg_75 := hb_642 _ _ hg_jks
                have hd_76 := jYb.grow (hh_64.iv 1 rfl) hb_642 hN_64 (by decide)
                have hh_77 := hh_64.sub (L1 := [(r0, 13, 11, .int phase_8), (r0, 13, 4, .ref bo), (bo, 2, 1, .int pc), (bo, 2, 0, .ref pa), (r0, 13, 3, .ref ou), (r0, 13, 2, .ref js), (js, 6, 7, .int pv), (js, 6, 8, .int pu), (js, 6, 0, .ref wk), (js, 6, 1, .ref wi), (js, 6, 2, .ref wz), (js, 6, 5, .ref jks)]) [0, 1, 2, 3, 4, 5, 6, 7, 8, 9, 10, 11] rfl (M1 := [(wk, 140, 1502, ca 1, fk), (wi, 141, 1502, ca 1, fi), (wz, 142, 1502, ca 1, fz), (jks, 145, 1502, ca 1, fs)]) [0, 1, 2, 3] rfl (I1 := [([(2, 0), (2, 1)], jOl (dC, dI) G0 2 [bo, ou] s.heap), (jFs11, jSef dC dI G0)]) [0, 2] rfl
                clear hh_64
                have hh_78 := hh_77.addI (jYb.ie hd_76)
                clear hh_77
                have hd_79 := jSef.grow (hh_78.iv 2 rfl) hb_642 hN_64 (by decide)
                have hh_80 := hh_78.sub (L1 := [(r0, 13, 11, .int phase_8), (r0, 13, 4, .ref bo), (bo, 2, 1, .int pc), (bo, 2, 0, .ref pa), (r0, 13, 3, .ref ou), (r0, 13, 2, .ref js), (js, 6, 7, .int pv), (js, 6, 8, .int pu), (js, 6, 0, .ref wk), (js, 6, 1, .ref wi), (js, 6, 2, .ref wz), (js, 6, 5, .ref jks)]) [0, 1, 2, 3, 4, 5, 6, 7, 8, 9, 10, 11] rfl (M1 := [(wk, 140, 1502, ca 1, fk), (wi, 141, 1502, ca 1, fi), (wz, 142, 1502, ca 1, fz), (jks, 145, 1502, ca 1, fs)]) [0, 1, 2, 3] rfl (I1 := [(jFy, jYb dC dI G_64), ([(2, 0), (2, 1)], jOl (dC, dI) G0 2 [bo, ou] s.heap)]) [0, 1] rfl
                clear hh_78
                have hh_81 := hh_80.addI (jSef.ie hd_79)
                clear hh_80
                have hh_82 := hh_81.addIs hbE_64
                obtain ⟨hr_65b, hr_65p⟩ := hr_65
                try simp only at hr_65p
                have hr_65' := jb_01 hr_65b
                have hsz_83 := hh_82.2.2.2.2.2.1
                have htt_83 := hh_82.2.2.2.2.2.2.1
                refine W.room (fun hrc_83 hrs_83 => ?_)
                refine va_callv (A0 := jA base) (H0 := s.heap) (va_runV (As := [.ref r1, .int r_65]) (rest := []) ⟨hx, hb, hml, hown, hts⟩ (uX11_answerOrWait l dC dI ca base B hB hAp hB1 hB2 hB3 hB4 hB5 hB7 hB8 hB9 hB10 hB11 hB13 hB101 hB102 hB132 hB196 hB210 hB214 hB222 hB280 hB286 hB287 hB288 hB313 G_64 H_64 r0 r1 r_65 bo pc pa n_pa ou LC LS) (cwV 2 hts (jgV (jWr_29 _ (List.mem_of_getElem? (i := 15) rfl)) (jWr_29 _ (List.mem_of_getElem? (i := 16) rfl)) (jWr_29 _ (List.mem_of_getElem? (i := 17) rfl)) (jWr_1 _ (List.mem_of_getElem? (i := 2) rfl)) (jWr_29 _ (List.mem_of_getElem? (i := 18) rfl))) rfl rfl rfl (by decide +kernel) ⟨by rw [← hR]; exact Nat.le_of_ble_eq_true rfl, by rw [← hR]; exact Nat.le_of_ble_eq_true rfl⟩) ⟨fun a U g mk q => by obtain ⟨q0, q1, q2, qK, q10, q11, q12, q13, q14, q15, q16, q17, q18, q19, q20, q21⟩ := q; exact ⟨q0, q1, q2, jG.calling g mk a qK, (va_K.moved (Vm.Alike.refl U.vm) q10), (jK5.moved (Vm.Alike.refl U.vm) q11), (jK7.calling g mk a q12), q13, q14, q15, q16, q17, q18, q19, q20, q21⟩, hh_82.recv (C := RX11) (T := TX11) (N := 19) hB13 rfl (by decide) hg_66 hK, fun U hU hW => ⟨rfl, hU, hh_82.2.1, hG.step hW hU hh_82.1, va_K.moved hW.alike hK2, jK5.moved hW.alike hK5, (hK7.step hW hU hh_82.1), hg_66, hg_67, (hr_65b), hg_68, hg_69, hg_70, (hh_82.2.2.1.sub (L1 := [(r0, 13, 4, .ref bo), (bo, 2, 1, .int pc), (bo, 2, 0, .ref pa), (r0, 13, 3, .ref ou)]) [1, 2, 3, 4] rfl), (hh_82.2.2.2.2.2.2.2.2.sub (L1 := [(jFy, jYb dC dI G_64), (jFs11, jSef dC dI G_64), (jFl, jLs dC dI ca G_64 3 none)]) [2, 1, 0] rfl), (by omega), (by omega), by first | omega | (refine ⟨?_, ?_, ?_, ?_, ?_⟩ <;> (first | omega | rfl | assumption | decide | exact Or.inl rfl | exact Or.inr rfl | (simp only; omega)))⟩⟩ rfl rfl hl.1 rfl (lv_room (Nat.le_of_ble_eq_true rfl)) dX11_request_198 ⟨by rw [hRc]; omega, by rw [hRs]; omega⟩) hh_82.1 (fun q _ h => h) (fun q h => h) (fun u_83 t_83 H_83 locs_83 ht_83 hvm_83 hr_84 hb_83 hz_83 hk_83 hS_83 => ?_)
                obtain ⟨qc_83, qa_83, m_qa_83, G_83⟩ := u_83
                rw [ht_83] at hb_83
                simp only at hb_83
                obtain ⟨⟨hb_831, hb_832, hb_833, hb_834, hb_835, hb_836⟩, hgq_83_0, hN_83, hbO_83, hbE_83⟩ := hb_83
                have hh_83 : jSt (dC, dI) B base G0 G_83 EX11_request s.heap ((0 + (1)) + ((m_qa_83 - n_pa) / 16 + 1)) ((0 + ((pu.toInt : Int).toNat)) + (2 * (m_qa_83 - n_pa) + 40)) [(bo, 2, 1, .int qc_83), (bo, 2, 0, .ref qa_83), (r0, 13, 11, .int phase_8), (r0, 13, 4, .ref bo), (r0, 13, 3, .ref ou), (r0, 13, 2, .ref js), (js, 6, 7, .int pv), (js, 6, 8, .int pu), (js, 6, 0, .ref wk), (js, 6, 1, .ref wi), (js, 6, 2, .ref wz), (js, 6, 5, .ref jks)] [(wk, 140, 1502, ca 1, fk), (wi, 141, 1502, ca 1, fi), (wz, 142, 1502, ca 1, fz), (jks, 145, 1502, ca 1, fs)] [] H_83 locs_83 := (hh_82.callG hb_831 hb_832 hb_833 hb_834 hb_835 hS_83 rfl (L1 := [(r0, 13, 11, .int phase_8), (r0, 13, 4, .ref bo), (r0, 13, 3, .ref ou), (r0, 13, 2, .ref js), (js, 6, 7, .int pv), (js, 6, 8, .int pu), (js, 6, 0, .ref wk), (js, 6, 1, .ref wi), (js, 6, 2, .ref wz), (js, 6, 5, .ref jks)]) [0, 1, 4, 5, 6, 7, 8, 9, 10, 11] rfl rfl (M1 := [(wk, 140, 1502, ca 1, fk), (wi, 141, 1502, ca 1, fi), (wz, 142, 1502, ca 1, fz), (jks, 145, 1502, ca 1, fs)]) [0, 1, 2, 3] rfl rfl (I1 := []) [] rfl rfl).more hb_836
                have hNn_83 : (jNk [0, 1, 2, 3, 4, 5, 6, 7, 8, 9, 10, 11, 12, 13, 14, 15, 16]) G0 G_83 := (hNn_64).tr hN_83
                have hg_85 := hb_832 _ _ hg_66
                have hg_86 := hb_832 _ _ hg_67
                have hg_87 := hb_832 _ _ hg_68
                have hg_88 := hb_832 _ _ hg_70
                have hg_89 := hb_832 _ _ hg_71
                have hg_90 := hb_832 _ _ hg_72
                have hg_91 := hb_832 _ _ hg_73
                have hg_92 := hb_832 _ _ hg_74
                have hg_93 := hb_832 _ _ hg_75
                have hh_94 := hh_83.addIs hbE_83
                have hd_95 := jOl.trL (hh_82.iv 3 rfl) hh_82.2.2.2.2.1 hbO_83 (by simp)
                have hh_96 := hh_94.addI (jOl.ie (dC := dC) (dI := dI) (G0 := G0) (k := 2) (rs := [bo, ou]) (H0 := s.heap) (F := [(2, 0), (2, 1)]) (C := RX0) (T := TX0) (N := 2) rfl (by decide) hh_94.2.2.2.2.1 (hd_95))
                clear hh_94
                try simp only at hr_84
                obtain ⟨hr_84_0, hr_84_1, hr_84_2, hr_84_3, hr_84_4⟩ := hr_84
                refine lv_goto (tgt := 212) hx hb dX11_request_201 (by decide) ?_
                have hsz_97 := hh_96.2.2.2.2.2.1
                have htt_97 := hh_96.2.2.2.2.2.2.1
                refine W.room (fun hrc_97 hrs_97 => ?_)
                refine W.widen (k := LC - s.heap.size) (n := LS - jTot s.heap) (by omega) (by omega) ?_
                rw [hQ]
                exact W.vret hx hb hr (fun t ht hW => ⟨⟨(qc_83, qa_83, m_qa_83, G_83), rfl, by (try dsimp only); exact ⟨(by first | omega | rfl | assumption | fail), (by first | omega | rfl | assumption | fail), (by first | omega | rfl | assumption | fail), (by first | omega | rfl | assumption | fail), (by first | assumption | fail | omega)⟩, ⟨hh_96.ra (by first | omega | (simp only; omega)) (by first | omega | (simp only; omega)) (M1 := [(bo, 2, 1, .int qc_83), (bo, 2, 0, .ref qa_83)]) [0, 1] rfl ht, hgq_83_0, hNn_83, by rw [ht]; exact hh_96.iv 0 rfl, by rw [ht]; exact hh_96.2.2.2.2.2.2.2.2.sub (L1 := [(jFy, jYb dC dI G_83), (jFs11, jSef dC dI G_83), (jFl, jLs dC dI ca G_83 3 none)]) [1, 2, 3] rfl⟩⟩, by rw [ht]; try exact hh_96.1.1, fun q h9 hq => by rw [ht]; try exact hh_96.1.2.1 q h9 hq⟩) hh_96.1.2.2 dX11_request_212
            · skip
              have c_39' : r_38.toInt ≠ 0 := jb_eq_n (rfl) ((by decide)) c_39
              first | (have hr_3_2q := hr_3_2.resolve_left (by omega); clear hr_3_2) | (have hr_3_2q := hr_3_2.resolve_right (by omega); clear hr_3_2) | skip
              first | (have hr_5pq := hr_5p.resolve_left (by omega); clear hr_5p) | (have hr_5pq := hr_5p.resolve_right (by omega); clear hr_5p) | skip
              first | (have hr_38pq := hr_38p.resolve_left (by omega); clear hr_38p) | (have hr_38pq := hr_38p.resolve_right (by omega); clear hr_38p) | try clear hr_38p
              refine lv_aload_n hx hb dX11_request_164 rfl (lv_at hl 2 rfl) ?_
              refine lv_aload_n hx hb dX11_request_165 rfl (lv_at hl 3 rfl) ?_
              refine lv_aload_n hx hb dX11_request_166 rfl (lv_at hl 2 rfl) ?_
              refine lv_aload_n hx hb dX11_request_167 rfl (lv_at hl 3 rfl) ?_
              have hsz_98 := hh_37.2.2.2.2.2.1
              have htt_98 := hh_37.2.2.2.2.2.2.1
              refine W.room (fun hrc_98 hrs_98 => ?_)
              refine va_calli (A0 := jA base) (H0 := s.heap) (va_runV (As := [.ref r1]) (rest := [.ref r1, .ref r0]) ⟨hx, hb, hml, hown, hts⟩ (uX11_aimAtPlace l dC dI ca base B hB hAp hB1 hB3 hB6 hB10 hB13 hB101 hB140 hB141 hB142 hB143 hB144 hB145 hB146 hB172 hB221 G0 H_37 r0 r1) (cwV 1 hts (jgV (jWr_27 _ (List.mem_of_getElem? (i := 10) rfl)) (jWr_27 _ (List.mem_of_getElem? (i := 11) rfl)) (jWr_27 _ (List.mem_of_getElem? (i := 12) rfl)) (jWr_1 _ (List.mem_of_getElem? (i := 2) rfl)) (jWr_27 _ (List.mem_of_getElem? (i := 13) rfl))) rfl rfl rfl (by decide +kernel) ⟨by rw [← hR]; exact Nat.le_of_ble_eq_true rfl, by rw [← hR]; exact Nat.le_of_ble_eq_true rfl⟩) ⟨fun a U g mk q => by obtain ⟨q0, q1, q2, qK, q10, q11, q12, q13, q14, q15⟩ := q; exact ⟨q0, q1, q2, jG.calling g mk a qK, (jK7.calling g mk a q10), q11, q12, q13, q14, q15⟩, hh_37.recv (C := RX11) (T := TX11) (N := 19) hB13 rfl (by decide) hg_r0 hK, fun U hU hW => ⟨rfl, hU, hh_37.2.1, hG.step hW hU hh_37.1, (hK7.step hW hU hh_37.1), hg_r0, hg_r1, jP.nil, (hh_37.2.2.2.2.2.2.2.2.sub (L1 := [(jFl, jLs dC dI ca G0 3 none)]) [3] rfl), trivial⟩⟩ rfl rfl hl.1 rfl (lv_room (Nat.le_of_ble_eq_true rfl)) dX11_request_168 ⟨by rw [hRc]; show _ + 0 ≤ _; omega, by rw [hRs]; show _ + 0 ≤ _; omega⟩) hh_37.1 (fun q _ h => h) (fun q h => h) (fun r_99 u_98 t_98 H_98 locs_98 ht_98 hvm_98 hr_99 hb_98 hz_98 hk_98 hS_98 => ?_)
              rw [ht_98] at hb_98
              obtain ⟨hb_98, hbE_98⟩ := hb_98
              obtain ⟨hb_981, hb_982, hb_983, hb_984, hb_985⟩ := hb_98
              have hh_98 : jSt (dC, dI) B base G0 G0 EX11_request s.heap 0 0 [(r0, 13, 11, .int phase_8), (r0, 13, 4, .ref bo), (bo, 2, 1, .int pc), (bo, 2, 0, .ref pa), (r0, 13, 3, .ref ou), (r0, 13, 2, .ref js), (js, 6, 7, .int pv), (js, 6, 8, .int pu), (js, 6, 0, .ref wk), (js, 6, 1, .ref wi), (js, 6, 2, .ref wz), (js, 6, 5, .ref jks)] [(wk, 140, 1502, ca 1, fk), (wi, 141, 1502, ca 1, fi), (wz, 142, 1502, ca 1, fz), (jks, 145, 1502, ca 1, fs)] [(jFl, jLs dC dI ca G0 3 none), ([(2, 0), (2, 1)], jOl (dC, dI) G0 2 [bo, ou] s.heap), (jFy, jYb dC dI G0), (jFs11, jSef dC dI G0)] H_98 locs_98 := (((hh_37.call hb_981 hb_982 hb_983 hb_984 hS_98 rfl (L1 := [(r0, 13, 11, .int phase_8), (r0, 13, 4, .ref bo), (bo, 2, 1, .int pc), (bo, 2, 0, .ref pa), (r0, 13, 3, .ref ou), (r0, 13, 2, .ref js), (js, 6, 7, .int pv), (js, 6, 8, .int pu), (js, 6, 0, .ref wk), (js, 6, 1, .ref wi), (js, 6, 2, .ref wz), (js, 6, 5, .ref jks)]) [0, 1, 2, 3, 4, 5, 6, 7, 8, 9, 10, 11] rfl rfl (M1 := [(wk, 140, 1502, ca 1, fk), (wi, 141, 1502, ca 1, fi), (wz, 142, 1502, ca 1, fz), (jks, 145, 1502, ca 1, fs)]) [0, 1, 2, 3] rfl rfl (I1 := [([(2, 0), (2, 1)], jOl (dC, dI) G0 2 [bo, ou] s.heap), (jFy, jYb dC dI G0), (jFs11, jSef dC dI G0)]) [0, 1, 2] rfl rfl).more hb_985)).addIs hbE_98
              clear hh_37 ht_98 hvm_98 hz_98 hk_98 hS_98 hb_981 hb_982 hb_983 hb_984 hb_985
              clear  hbE_98
              obtain ⟨hr_99b, hr_99p⟩ := hr_99
              have hr_99' := jb_01 hr_99b
              have hsz_100 := hh_98.2.2.2.2.2.1
              have htt_100 := hh_98.2.2.2.2.2.2.1
              refine W.room (fun hrc_100 hrs_100 => ?_)
              refine va_callv (A0 := jA base) (H0 := s.heap) (va_runV (As := [.ref r1, .int r_99]) (rest := []) ⟨hx, hb, hml, hown, hts⟩ (uX11_answerOrWait l dC dI ca base B hB hAp hB1 hB2 hB3 hB4 hB5 hB7 hB8 hB9 hB10 hB11 hB13 hB101 hB102 hB132 hB196 hB210 hB214 hB222 hB280 hB286 hB287 hB288 hB313 G0 H_98 r0 r1 r_99 bo pc pa n_pa ou LC LS) (cwV 2 hts (jgV (jWr_29 _ (List.mem_of_getElem? (i := 15) rfl)) (jWr_29 _ (List.mem_of_getElem? (i := 16) rfl)) (jWr_29 _ (List.mem_of_getElem? (i := 17) rfl)) (jWr_1 _ (List.mem_of_getElem? (i := 2) rfl)) (jWr_29 _ (List.mem_of_getElem? (i := 18) rfl))) rfl rfl rfl (by decide +kernel) ⟨by rw [← hR]; exact Nat.le_of_ble_eq_true rfl, by rw [← hR]; exact Nat.le_of_ble_eq_true rfl⟩) ⟨fun a U g mk q => by obtain ⟨q0, q1, q2, qK, q10, q11, q12, q13, q14, q15, q16, q17, q18, q19, q20, q21⟩ := q; exact ⟨q0, q1, q2, jG.calling g mk a qK, (va_K.moved (Vm.Alike.refl U.vm) q10), (jK5.moved (Vm.Alike.refl U.vm) q11), (jK7.calling g mk a q12), q13, q14, q15, q16, q17, q18, q19, q20, q21⟩, hh_98.recv (C := RX11) (T := TX11) (N := 19) hB13 rfl (by decide) hg_r0 hK, fun U hU hW => ⟨rfl, hU, hh_98.2.1, hG.step hW hU hh_98.1, va_K.moved hW.alike hK2, jK5.moved hW.alike hK5, (hK7.step hW hU hh_98.1), hg_r0, hg_r1, (hr_99b), hg_bo, hg_pa, hg_ou, (hh_98.2.2.1.sub (L1 := [(r0, 13, 4, .ref bo), (bo, 2, 1, .int pc), (bo, 2, 0, .ref pa), (r0, 13, 3, .ref ou)]) [1, 2, 3, 4] rfl), (hh_98.2.2.2.2.2.2.2.2.sub (L1 := [(jFy, jYb dC dI G0), (jFs11, jSef dC dI G0), (jFl, jLs dC dI ca G0 3 none)]) [2, 3, 0] rfl), (by omega), (by omega), by first | omega | (refine ⟨?_, ?_, ?_, ?_, ?_⟩ <;> (first | omega | rfl | assumption | decide | exact Or.inl rfl | exact Or.inr rfl | (simp only; omega)))⟩⟩ rfl rfl hl.1 rfl (lv_room (Nat.le_of_ble_eq_true rfl)) dX11_request_171 ⟨by rw [hRc]; omega, by rw [hRs]; omega⟩) hh_98.1 (fun q _ h => h) (fun q h => h) (fun u_100 t_100 H_100 locs_100 ht_100 hvm_100 hr_101 hb_100 hz_100 hk_100 hS_100 => ?_)
              obtain ⟨qc_100, qa_100, m_qa_100, G_100⟩ := u_100
              rw [ht_100] at hb_100
              simp only at hb_100
              obtain ⟨⟨hb_1001, hb_1002, hb_1003, hb_1004, hb_1005, hb_1006⟩, hgq_100_0, hN_100, hbO_100, hbE_100⟩ := hb_100
              have hh_100 : jSt (dC, dI) B base G0 G_100 EX11_request s.heap (0 + ((m_qa_100 - n_pa) / 16 + 1)) (0 + (2 * (m_qa_100 - n_pa) + 40)) [(bo, 2, 1, .int qc_100), (bo, 2, 0, .ref qa_100), (r0, 13, 11, .int phase_8), (r0, 13, 4, .ref bo), (r0, 13, 3, .ref ou), (r0, 13, 2, .ref js), (js, 6, 7, .int pv), (js, 6, 8, .int pu), (js, 6, 0, .ref wk), (js, 6, 1, .ref wi), (js, 6, 2, .ref wz), (js, 6, 5, .ref jks)] [(wk, 140, 1502, ca 1, fk), (wi, 141, 1502, ca 1, fi), (wz, 142, 1502, ca 1, fz), (jks, 145, 1502, ca 1, fs)] [] H_100 locs_100 := (hh_98.callG hb_1001 hb_1002 hb_1003 hb_1004 hb_1005 hS_100 rfl (L1 := [(r0, 13, 11, .int phase_8), (r0, 13, 4, .ref bo), (r0, 13, 3, .ref ou), (r0, 13, 2, .ref js), (js, 6, 7, .int pv), (js, 6, 8, .int pu), (js, 6, 0, .ref wk), (js, 6, 1, .ref wi), (js, 6, 2, .ref wz), (js, 6, 5, .ref jks)]) [0, 1, 4, 5, 6, 7, 8, 9, 10, 11] rfl rfl (M1 := [(wk, 140, 1502, ca 1, fk), (wi, 141, 1502, ca 1, fi), (wz, 142, 1502, ca 1, fz), (jks, 145, 1502, ca 1, fs)]) [0, 1, 2, 3] rfl rfl (I1 := []) [] rfl rfl).more hb_1006
              have hNn_100 : (jNk [0, 1, 2, 3, 4, 5, 6, 7, 8, 9, 10, 11, 12, 13, 14, 15, 16]) G0 G_100 := (jNk.rf).tr hN_100
              have hg_102 := hb_1002 _ _ hg_r0
              have hg_103 := hb_1002 _ _ hg_r1
              have hg_104 := hb_1002 _ _ hg_bo
              have hg_105 := hb_1002 _ _ hg_ou
              have hg_106 := hb_1002 _ _ hg_js
              have hg_107 := hb_1002 _ _ hg_wk
              have hg_108 := hb_1002 _ _ hg_wi
              have hg_109 := hb_1002 _ _ hg_wz
              have hg_110 := hb_1002 _ _ hg_jks
              have hh_111 := hh_100.addIs hbE_100
              have hd_112 := jOl.trL (hh_98.iv 1 rfl) hh_98.2.2.2.2.1 hbO_100 (by simp)
              have hh_113 := hh_111.addI (jOl.ie (dC := dC) (dI := dI) (G0 := G0) (k := 2) (rs := [bo, ou]) (H0 := s.heap) (F := [(2, 0), (2, 1)]) (C := RX0) (T := TX0) (N := 2) rfl (by decide) hh_111.2.2.2.2.1 (hd_112))
              clear hh_111
              try simp only at hr_101
              obtain ⟨hr_101_0, hr_101_1, hr_101_2, hr_101_3, hr_101_4⟩ := hr_101
              refine lv_goto (tgt := 212) hx hb dX11_request_174 (by decide) ?_
              have hsz_114 := hh_113.2.2.2.2.2.1
              have htt_114 := hh_113.2.2.2.2.2.2.1
              refine W.room (fun hrc_114 hrs_114 => ?_)
              refine W.widen (k := LC - s.heap.size) (n := LS - jTot s.heap) (by omega) (by omega) ?_
              rw [hQ]
              exact W.vret hx hb hr (fun t ht hW => ⟨⟨(qc_100, qa_100, m_qa_100, G_100), rfl, by (try dsimp only); exact ⟨(by first | omega | rfl | assumption | fail), (by first | omega | rfl | assumption | fail), (by first | omega | rfl | assumption | fail), (by first | omega | rfl | assumption | fail), (by first | assumption | fail | omega)⟩, ⟨hh_113.ra (by first | omega | (simp only; omega)) (by first | omega | (simp only; omega)) (M1 := [(bo, 2, 1, .int qc_100), (bo, 2, 0, .ref qa_100)]) [0, 1] rfl ht, hgq_100_0, hNn_100, by rw [ht]; exact hh_113.iv 0 rfl, by rw [ht]; exact hh_113.2.2.2.2.2.2.2.2.sub (L1 := [(jFy, jYb dC dI G_100), (jFs11, jSef dC dI G_100), (jFl, jLs dC dI ca G_100 3 none)]) [1, 2, 3] rfl⟩⟩, by rw [ht]; try exact hh_113.1.1, fun q h9 hq => by rw [ht]; try exact hh_113.1.2.1 q h9 hq⟩) hh_113.1.2.2 dX11_request_212
          · skip
            have c_36' : r_35.toInt ≠ 0 := jb_eq_n (rfl) ((by decide)) c_36
            first | (have hr_3_2q := hr_3_2.resolve_left (by omega); clear hr_3_2) | (have hr_3_2q := hr_3_2.resolve_right (by omega); clear hr_3_2) | skip
            first | (have hr_5pq := hr_5p.resolve_left (by omega); clear hr_5p) | (have hr_5pq := hr_5p.resolve_right (by omega); clear hr_5p) | skip
            first | (have hr_35pq := hr_35p.resolve_left (by omega); clear hr_35p) | (have hr_35pq := hr_35p.resolve_right (by omega); clear hr_35p) | try clear hr_35p
            refine lv_aload_n hx hb dX11_request_120 rfl (lv_at hl 2 rfl) ?_
            refine lv_iconst (v := 2) hx hb dX11_request_121 (by decide) ?_
            refine j7_put hx hb hown hK hh_34 hB hAp hB13 (C := RX11) (T := TX11) (N := 19) rfl (by decide) hg_r0 (i := 11) (by decide) hly_13_11 rfl hlk_77 rfl (ty := .int) (v := .int 2) (by decide +kernel) rfl rfl (⟨_, rfl, by omega, by omega⟩) rfl (L1 := [(r0, 13, 4, .ref bo), (bo, 2, 1, .int pc), (bo, 2, 0, .ref pa), (r0, 13, 3, .ref ou), (r0, 13, 2, .ref js), (js, 6, 7, .int pv), (js, 6, 8, .int pu), (js, 6, 0, .ref wk), (js, 6, 1, .ref wi), (js, 6, 2, .ref wz), (js, 6, 5, .ref jks)]) [1, 2, 3, 4, 5, 6, 7, 8, 9, 10, 11] rfl rfl rfl dX11_request_122 (fun H_115 locs_115 hh_115 => ?_)
            clear hh_34
            refine lv_aload_n hx hb dX11_request_125 rfl (lv_at hl 2 rfl) ?_
            refine lv_aload_n hx hb dX11_request_126 rfl (lv_at hl 3 rfl) ?_
            refine j_ldcSw hx hb hown rstr289 dX11_request_127 ?_
            have hsz_116 := hh_115.2.2.2.2.2.1
            have htt_116 := hh_115.2.2.2.2.2.2.1
            refine W.room (fun hrc_116 hrs_116 => ?_)
            refine va_callv (A0 := jA base) (H0 := s.heap) (va_runV (As := [.ref r1, .ref str289]) (rest := []) ⟨hx, hb, hml, hown, hts⟩ (uX11_beginAnswer l dC dI ca base B hB hAp hB2 hB10 hB13 hB196 G0 H_115 r0 r1 str289 10 bo pc pa n_pa LC LS) (cwV 2 hts (jgV (jWr_26 _ (List.mem_of_getElem? (i := 7) rfl)) (jWr_26 _ (List.mem_of_getElem? (i := 8) rfl)) (jWr_26 _ (List.mem_of_getElem? (i := 9) rfl)) (jWr_1 _ (List.mem_of_getElem? (i := 2) rfl)) (jWr_26 _ (List.mem_of_getElem? (i := 10) rfl))) rfl rfl rfl (by decide +kernel) ⟨by rw [← hR]; exact Nat.le_of_ble_eq_true rfl, by rw [← hR]; exact Nat.le_of_ble_eq_true rfl⟩) ⟨fun a U g mk q => by obtain ⟨q0, q1, q2, qK, q10, q11, q12, q13, q14, q15, q16, q17⟩ := q; exact ⟨q0, q1, q2, jG.calling g mk a qK, (q10.moved (Vm.Alike.refl U.vm)), q11, q12, q13, q14, q15, q16, q17⟩, hh_115.recv (C := RX11) (T := TX11) (N := 19) hB13 rfl (by decide) hg_r0 hK, fun U hU hW => ⟨rfl, hU, hh_115.2.1, hG.step hW hU hh_115.1, (hstr289.moved hW.alike).kept hh_115.1.2.1, hg_r1, hg_r0, hg_bo, hg_pa, (hh_115.2.2.1.sub (L1 := [(r0, 13, 4, .ref bo), (bo, 2, 1, .int pc), (bo, 2, 0, .ref pa)]) [1, 2, 3] rfl), (hh_115.2.2.2.2.2.2.2.2.sub (L1 := [(jFy, jYb dC dI G0)]) [1] rfl), (by omega), (by omega), by first | omega | (refine ⟨?_, ?_, ?_, ?_, ?_, ?_⟩ <;> (first | omega | rfl | assumption | decide | exact Or.inl rfl | exact Or.inr rfl | (simp only; omega)))⟩⟩ rfl rfl hl.1 rfl (lv_room (Nat.le_of_ble_eq_true rfl)) dX11_request_130 ⟨by rw [hRc]; omega, by rw [hRs]; omega⟩) hh_115.1 (fun q _ h => h) (fun q h => h) (fun u_116 t_116 H_116 locs_116 ht_116 hvm_116 hr_117 hb_116 hz_116 hk_116 hS_116 => ?_)
            obtain ⟨qc_116, qa_116, m_qa_116, G_116⟩ := u_116
            rw [ht_116] at hb_116
            simp only at hb_116
            obtain ⟨⟨hb_1161, hb_1162, hb_1163, hb_1164, hb_1165, hb_1166⟩, hgq_116_0, hN_116, hbO_116, hbE_116⟩ := hb_116
            have hh_116 : jSt (dC, dI) B base G0 G_116 EX11_request s.heap (0 + ((m_qa_116 - n_pa) / 16)) (0 + (2 * (m_qa_116 - n_pa))) [(bo, 2, 1, .int qc_116), (bo, 2, 0, .ref qa_116), (r0, 13, 11, .int 2), (r0, 13, 4, .ref bo), (r0, 13, 3, .ref ou), (r0, 13, 2, .ref js), (js, 6, 7, .int pv), (js, 6, 8, .int pu), (js, 6, 0, .ref wk), (js, 6, 1, .ref wi), (js, 6, 2, .ref wz), (js, 6, 5, .ref jks)] [(wk, 140, 1502, ca 1, fk), (wi, 141, 1502, ca 1, fi), (wz, 142, 1502, ca 1, fz), (jks, 145, 1502, ca 1, fs)] [(jFs11, jSef dC dI G0), (jFl, jLs dC dI ca G0 3 none)] H_116 locs_116 := (hh_115.callG hb_1161 hb_1162 hb_1163 hb_1164 hb_1165 hS_116 rfl (L1 := [(r0, 13, 11, .int 2), (r0, 13, 4, .ref bo), (r0, 13, 3, .ref ou), (r0, 13, 2, .ref js), (js, 6, 7, .int pv), (js, 6, 8, .int pu), (js, 6, 0, .ref wk), (js, 6, 1, .ref wi), (js, 6, 2, .ref wz), (js, 6, 5, .ref jks)]) [0, 1, 4, 5, 6, 7, 8, 9, 10, 11] rfl rfl (M1 := [(wk, 140, 1502, ca 1, fk), (wi, 141, 1502, ca 1, fi), (wz, 142, 1502, ca 1, fz), (jks, 145, 1502, ca 1, fs)]) [0, 1, 2, 3] rfl rfl (I1 := [(jFs11, jSef dC dI G0), (jFl, jLs dC dI ca G0 3 none)]) [2, 3] rfl rfl).more hb_1166
            have hNn_116 : (jNk [0, 1, 2, 3, 4, 5, 6, 7, 8, 9, 10, 11, 12, 13, 14, 15, 16]) G0 G_116 := (jNk.rf).tr hN_116
            have hg_118 := hb_1162 _ _ hg_r0
            have hg_119 := hb_1162 _ _ hg_r1
            have hg_120 := hb_1162 _ _ hg_bo
            have hg_121 := hb_1162 _ _ hg_ou
            have hg_122 := hb_1162 _ _ hg_js
            have hg_123 := hb_1162 _ _ hg_wk
            have hg_124 := hb_1162 _ _ hg_wi
            have hg_125 := hb_1162 _ _ hg_wz
            have hg_126 := hb_1162 _ _ hg_jks
            have hd_127 := jSef.grow (hh_116.iv 0 rfl) hb_1162 hN_116 (by decide)
            have hh_128 := hh_116.sub (L1 := [(bo, 2, 1, .int qc_116), (bo, 2, 0, .ref qa_116), (r0, 13, 11, .int 2), (r0, 13, 4, .ref bo), (r0, 13, 3, .ref ou), (r0, 13, 2, .ref js), (js, 6, 7, .int pv), (js, 6, 8, .int pu), (js, 6, 0, .ref wk), (js, 6, 1, .ref wi), (js, 6, 2, .ref wz), (js, 6, 5, .ref jks)]) [0, 1, 2, 3, 4, 5, 6, 7, 8, 9, 10, 11] rfl (M1 := [(wk, 140, 1502, ca 1, fk), (wi, 141, 1502, ca 1, fi), (wz, 142, 1502, ca 1, fz), (jks, 145, 1502, ca 1, fs)]) [0, 1, 2, 3] rfl (I1 := [(jFl, jLs dC dI ca G0 3 none)]) [1] rfl
            clear hh_116
            have hh_129 := hh_128.addI (jSef.ie hd_127)
            clear hh_128
            have hd_130 := jLs.grow (hh_129.iv 1 rfl) hb_1162 hN_116 (by decide)
            have hh_131 := hh_129.sub (L1 := [(bo, 2, 1, .int qc_116), (bo, 2, 0, .ref qa_116), (r0, 13, 11, .int 2), (r0, 13, 4, .ref bo), (r0, 13, 3, .ref ou), (r0, 13, 2, .ref js), (js, 6, 7, .int pv), (js, 6, 8, .int pu), (js, 6, 0, .ref wk), (js, 6, 1, .ref wi), (js, 6, 2, .ref wz), (js, 6, 5, .ref jks)]) [0, 1, 2, 3, 4, 5, 6, 7, 8, 9, 10, 11] rfl (M1 := [(wk, 140, 1502, ca 1, fk), (wi, 141, 1502, ca 1, fi), (wz, 142, 1502, ca 1, fz), (jks, 145, 1502, ca 1, fs)]) [0, 1, 2, 3] rfl (I1 := [(jFs11, jSef dC dI G_116)]) [0] rfl
            clear hh_129
            have hh_132 := hh_131.addI (jLs.ie hd_130)
            clear hh_131
            have hh_133 := hh_132.addIs hbE_116
            have hd_134 := jOl.trL (hh_115.iv 0 rfl) hh_115.2.2.2.2.1 hbO_116 (by simp)
            have hh_135 := hh_133.addI (jOl.ie (dC := dC) (dI := dI) (G0 := G0) (k := 2) (rs := [bo, ou]) (H0 := s.heap) (F := [(2, 0), (2, 1)]) (C := RX0) (T := TX0) (N := 2) rfl (by decide) hh_133.2.2.2.2.1 (hd_134))
            clear hh_133
            try simp only at hr_117
            obtain ⟨hr_117_0, hr_117_1, hr_117_2, hr_117_3, hr_117_4⟩ := hr_117
            refine lv_aload_n hx hb dX11_request_133 rfl (lv_at hl 2 rfl) ?_
            refine j7_read hx hb hown hK (C := RX11) (T := TX11) (N := 19) rfl hly_13_4 hlk_35 (hh_135.at 3 rfl) dX11_request_134 ?_
            refine j_ldcSw hx hb hown rstr305 dX11_request_137 ?_
            have hsz_136 := hh_135.2.2.2.2.2.1
            have htt_136 := hh_135.2.2.2.2.2.2.1
            refine W.room (fun hrc_136 hrs_136 => ?_)
            refine va_callv (A0 := jA base) (H0 := s.heap) (va_runV (As := [.ref str305]) (rest := []) ⟨hx, hb, hml, hown, hts⟩ (uX0_text l dC dI ca base B hB hAp hB2 hB196 G_116 H_116 bo str305 5 qc_116 qa_116 m_qa_116 LC LS) (cwV 1 hts (jgV (jWr_26 _ (List.mem_of_getElem? (i := 11) rfl)) (jWr_25 _ (List.mem_of_getElem? (i := 22) rfl)) (jWr_25 _ (List.mem_of_getElem? (i := 23) rfl)) (jWr_1 _ (List.mem_of_getElem? (i := 14) rfl)) (jWr_26 _ (List.mem_of_getElem? (i := 0) rfl))) rfl rfl rfl (by decide +kernel) ⟨by rw [← hR]; exact Nat.le_of_ble_eq_true rfl, by rw [← hR]; exact Nat.le_of_ble_eq_true rfl⟩) ⟨fun a U g mk q => by obtain ⟨q0, q1, q2, qK, q10, q11, q12, q13, q14⟩ := q; exact ⟨q0, q1, q2, jG.calling g mk a qK, (q10.moved (Vm.Alike.refl U.vm)), q11, q12, q13, q14⟩, hh_135.recv (C := RX0) (T := TX0) (N := 2) hB2 rfl (by decide) hg_120 hK, fun U hU hW => ⟨rfl, hU, hh_135.2.1, hG.step hW hU hh_135.1, (hstr305.moved hW.alike).kept hh_135.1.2.1, hg_120, hgq_116_0, (hh_135.2.2.1.sub (L1 := [(bo, 2, 1, .int qc_116), (bo, 2, 0, .ref qa_116)]) [0, 1] rfl), (by omega), (by omega), by first | omega | (refine ⟨?_, ?_, ?_, ?_, ?_, ?_⟩ <;> (first | omega | rfl | assumption | decide | exact Or.inl rfl | exact Or.inr rfl | (simp only; omega)))⟩⟩ rfl rfl hl.1 rfl (lv_room (Nat.le_of_ble_eq_true rfl)) dX11_request_140 ⟨by rw [hRc]; omega, by rw [hRs]; omega⟩) hh_135.1 (fun q _ h => h) (fun q h => h) (fun u_136 t_136 H_136 locs_136 ht_136 hvm_136 hr_137 hb_136 hz_136 hk_136 hS_136 => ?_)
            obtain ⟨qc_136, qa_136, m_qa_136, G_136⟩ := u_136
            rw [ht_136] at hb_136
            simp only at hb_136
            obtain ⟨⟨hb_1361, hb_1362, hb_1363, hb_1364, hb_1365, hb_1366⟩, hgq_136_0, hN_136, hbO_136⟩ := hb_136
            have hy_138 := hh_135.iv 1 rfl
            have hh_136 : jSt (dC, dI) B base G0 G_136 EX11_request s.heap ((0 + ((m_qa_116 - n_pa) / 16)) + ((m_qa_136 - m_qa_116) / 16)) ((0 + (2 * (m_qa_116 - n_pa))) + (2 * (m_qa_136 - m_qa_116))) [(bo, 2, 1, .int qc_136), (bo, 2, 0, .ref qa_136), (r0, 13, 11, .int 2), (r0, 13, 4, .ref bo), (r0, 13, 3, .ref ou), (r0, 13, 2, .ref js), (js, 6, 7, .int pv), (js, 6, 8, .int pu), (js, 6, 0, .ref wk), (js, 6, 1, .ref wi), (js, 6, 2, .ref wz), (js, 6, 5, .ref jks)] [(wk, 140, 1502, ca 1, fk), (wi, 141, 1502, ca 1, fi), (wz, 142, 1502, ca 1, fz), (jks, 145, 1502, ca 1, fs)] [(jFl, jLs dC dI ca G_116 3 none), (jFs11, jSef dC dI G_116)] H_136 locs_136 := (hh_135.callG hb_1361 hb_1362 hb_1363 hb_1364 hb_1365 hS_136 rfl (L1 := [(r0, 13, 11, .int 2), (r0, 13, 4, .ref bo), (r0, 13, 3, .ref ou), (r0, 13, 2, .ref js), (js, 6, 7, .int pv), (js, 6, 8, .int pu), (js, 6, 0, .ref wk), (js, 6, 1, .ref wi), (js, 6, 2, .ref wz), (js, 6, 5, .ref jks)]) [2, 3, 4, 5, 6, 7, 8, 9, 10, 11] rfl rfl (M1 := [(wk, 140, 1502, ca 1, fk), (wi, 141, 1502, ca 1, fi), (wz, 142, 1502, ca 1, fz), (jks, 145, 1502, ca 1, fs)]) [0, 1, 2, 3] rfl rfl (I1 := [(jFl, jLs dC dI ca G_116 3 none), (jFs11, jSef dC dI G_116)]) [2, 3] rfl rfl).more hb_1366
            have hNn_136 : (jNk [0, 1, 2, 3, 4, 5, 6, 7, 8, 9, 10, 11, 12, 13, 14, 15, 16]) G0 G_136 := (hNn_116).tr hN_136
            have hg_139 := hb_1362 _ _ hg_118
            have hg_140 := hb_1362 _ _ hg_119
            have hg_141 := hb_1362 _ _ hg_120
            have hg_142 := hb_1362 _ _ hg_121
            have hg_143 := hb_1362 _ _ hg_122
            have hg_144 := hb_1362 _ _ hg_123
            have hg_145 := hb_1362 _ _ hg_124
            have hg_146 := hb_1362 _ _ hg_125
            have hg_147 := hb_1362 _ _ hg_126
            have hd_148 := jLs.grow (hh_136.iv 0 rfl) hb_1362 hN_136 (by decide)
            have hh_149 := hh_136.sub (L1 := [(bo, 2, 1, .int qc_136), (bo, 2, 0, .ref qa_136), (r0, 13, 11, .int 2), (r0, 13, 4, .ref bo), (r0, 13, 3, .ref ou), (r0, 13, 2, .ref js), (js, 6, 7, .int pv), (js, 6, 8, .int pu), (js, 6, 0, .ref wk), (js, 6, 1, .ref wi), (js, 6, 2, .ref wz), (js, 6, 5, .ref jks)]) [0, 1, 2, 3, 4, 5, 6, 7, 8, 9, 10, 11] rfl (M1 := [(wk, 140, 1502, ca 1, fk), (wi, 141, 1502, ca 1, fi), (wz, 142, 1502, ca 1, fz), (jks, 145, 1502, ca 1, fs)]) [0, 1, 2, 3] rfl (I1 := [(jFs11, jSef dC dI G_116)]) [1] rfl
            clear hh_136
            have hh_150 := hh_149.addI (jLs.ie hd_148)
            clear hh_149
            have hd_151 := jSef.grow (hh_150.iv 1 rfl) hb_1362 hN_136 (by decide)
            have hh_152 := hh_150.sub (L1 := [(bo, 2, 1, .int qc_136), (bo, 2, 0, .ref qa_136), (r0, 13, 11, .int 2), (r0, 13, 4, .ref bo), (r0, 13, 3, .ref ou), (r0, 13, 2, .ref js), (js, 6, 7, .int pv), (js, 6, 8, .int pu), (js, 6, 0, .ref wk), (js, 6, 1, .ref wi), (js, 6, 2, .ref wz), (js, 6, 5, .ref jks)]) [0, 1, 2, 3, 4, 5, 6, 7, 8, 9, 10, 11] rfl (M1 := [(wk, 140, 1502, ca 1, fk), (wi, 141, 1502, ca 1, fi), (wz, 142, 1502, ca 1, fz), (jks, 145, 1502, ca 1, fs)]) [0, 1, 2, 3] rfl (I1 := [(jFl, jLs dC dI ca G_136 3 none)]) [0] rfl
            clear hh_150
            have hh_153 := hh_152.addI (jSef.ie hd_151)
            clear hh_152
            have hd_154 := jOl.trO (hh_135.iv 0 rfl) hh_135.2.2.2.2.1 hbO_136 (by simp)
            have hh_155 := hh_153.addI (jOl.ie (dC := dC) (dI := dI) (G0 := G0) (k := 2) (rs := [bo, ou]) (H0 := s.heap) (F := [(2, 0), (2, 1)]) (C := RX0) (T := TX0) (N := 2) rfl (by decide) hh_153.2.2.2.2.1 (hd_154))
            clear hh_153
            have hyp_136 : qc_136.toInt ≤ (m_qa_136 : Nat) ∧ m_qa_136 ≤ 1048576 := by (try simp only at hr_137); omega
            have hy_156 := jYb.own hy_138 hbO_136 hb_1362 hN_136 (by decide) (fun _ => ⟨_, _, _, hh_155.at 0 rfl, hh_155.at 1 rfl, hgq_136_0, hyp_136⟩)
            have hh_157 := hh_155.addI (jYb.ie hy_156)
            clear hh_155
            try simp only at hr_137
            obtain ⟨hr_137_0, hr_137_1, hr_137_2, hr_137_3, hr_137_4⟩ := hr_137
            refine lv_aload_n hx hb dX11_request_143 rfl (lv_at hl 2 rfl) ?_
            obtain ⟨v_160, hv_160, hh_161⟩ := hh_157.pin (C := RX0) (T := TX0) (N := 2) hB2 rfl (by decide) hg_142 (i := 1) (by decide) rfl
            obtain ⟨count_162, rfl, hlocount_162, hhicount_162, hfxcount_162⟩ := hv_160
            obtain ⟨v_163, hv_163, hh_164⟩ := hh_161.pin (C := RX0) (T := TX0) (N := 2) hB2 rfl (by decide) hg_142 (i := 0) (by decide) rfl
            obtain ⟨row_165, nrow_165, rfl, hg_row_165, hlorow_165, hhirow_165, hpwrow_165, hfxrow_165⟩ := hv_163
            have hsz_158 := hh_164.2.2.2.2.2.1
            have htt_158 := hh_164.2.2.2.2.2.2.1
            refine W.room (fun hrc_158 hrs_158 => ?_)
            refine va_callv (A0 := jA base) (H0 := s.heap) (va_runV (As := []) (rest := []) ⟨hx, hb, hml, hown, hts⟩ (uX11_send l dC dI ca base B hB hAp hB2 hB4 hB13 hB196 G_136 H_136 r0 bo qc_136 qa_136 m_qa_136 ou count_162 row_165 nrow_165) (cwV 0 hts (jgV (jWr_26 _ (List.mem_of_getElem? (i := 20) rfl)) (jWr_26 _ (List.mem_of_getElem? (i := 21) rfl)) (jWr_26 _ (List.mem_of_getElem? (i := 22) rfl)) (jWr_1 _ (List.mem_of_getElem? (i := 2) rfl)) (jWr_26 _ (List.mem_of_getElem? (i := 23) rfl))) rfl rfl rfl (by decide +kernel) ⟨by rw [← hR]; exact Nat.le_of_ble_eq_true rfl, by rw [← hR]; exact Nat.le_of_ble_eq_true rfl⟩) ⟨fun a U g mk q => by obtain ⟨q0, q1, q2, qK, q10, q11, q12, q13, q14, q15, q16, q17⟩ := q; exact ⟨q0, q1, q2, jG.calling g mk a qK, q10, q11, q12, q13, q14, q15, q16, q17⟩, hh_164.recv (C := RX11) (T := TX11) (N := 19) hB13 rfl (by decide) hg_139 hK, fun U hU hW => ⟨rfl, hU, hh_164.2.1, hG.step hW hU hh_164.1, hg_139, hg_141, hgq_136_0, hg_142, hg_row_165, (hh_164.2.2.1.sub (L1 := [(r0, 13, 4, .ref bo), (bo, 2, 1, .int qc_136), (bo, 2, 0, .ref qa_136), (r0, 13, 3, .ref ou), (ou, 2, 1, .int count_162), (ou, 2, 0, .ref row_165)]) [5, 2, 3, 6, 1, 0] rfl), (hh_164.2.2.2.2.2.2.2.2.sub (L1 := [(jFy, jYb dC dI G_136)]) [0] rfl), by first | omega | (refine ⟨?_, ?_, ?_, ?_, ?_, ?_⟩ <;> (first | omega | rfl | assumption | decide | exact Or.inl rfl | exact Or.inr rfl | (simp only; omega)))⟩⟩ rfl rfl hl.1 rfl (lv_room (Nat.le_of_ble_eq_true rfl)) dX11_request_144 ⟨by rw [hRc]; show _ + 0 ≤ _; omega, by rw [hRs]; show _ + 0 ≤ _; omega⟩) hh_164.1 (fun q _ h => h) (fun q h => h) (fun u_158 t_158 H_158 locs_158 ht_158 hvm_158 hr_159 hb_158 hz_158 hk_158 hS_158 => ?_)
            rw [ht_158] at hb_158
            obtain ⟨hb_158, hbE_158⟩ := hb_158
            obtain ⟨hb_158, hbO_158⟩ := hb_158
            obtain ⟨hb_1581, hb_1582, hb_1583, hb_1584, hb_1585⟩ := hb_158
            have hh_158 : jSt (dC, dI) B base G0 G_136 EX11_request s.heap ((0 + ((m_qa_116 - n_pa) / 16)) + ((m_qa_136 - m_qa_116) / 16)) ((0 + (2 * (m_qa_116 - n_pa))) + (2 * (m_qa_136 - m_qa_116))) [(r0, 13, 11, .int 2), (r0, 13, 4, .ref bo), (r0, 13, 3, .ref ou), (r0, 13, 2, .ref js), (js, 6, 7, .int pv), (js, 6, 8, .int pu), (js, 6, 0, .ref wk), (js, 6, 1, .ref wi), (js, 6, 2, .ref wz), (js, 6, 5, .ref jks)] [(wk, 140, 1502, ca 1, fk), (wi, 141, 1502, ca 1, fi), (wz, 142, 1502, ca 1, fz), (jks, 145, 1502, ca 1, fs)] [(jFy, jYb dC dI G_136), (jFs11, jSef dC dI G_136), (jFl, jLs dC dI ca G_136 3 none)] H_158 locs_158 := (((hh_164.call hb_1581 hb_1582 hb_1583 hb_1584 hS_158 rfl (L1 := [(r0, 13, 11, .int 2), (r0, 13, 4, .ref bo), (r0, 13, 3, .ref ou), (r0, 13, 2, .ref js), (js, 6, 7, .int pv), (js, 6, 8, .int pu), (js, 6, 0, .ref wk), (js, 6, 1, .ref wi), (js, 6, 2, .ref wz), (js, 6, 5, .ref jks)]) [4, 5, 6, 7, 8, 9, 10, 11, 12, 13] rfl rfl (M1 := [(wk, 140, 1502, ca 1, fk), (wi, 141, 1502, ca 1, fi), (wz, 142, 1502, ca 1, fz), (jks, 145, 1502, ca 1, fs)]) [0, 1, 2, 3] rfl rfl (I1 := [(jFs11, jSef dC dI G_136), (jFl, jLs dC dI ca G_136 3 none)]) [2, 3] rfl rfl).more hb_1585)).addIs hbE_158
            have hh_166 := hh_158.more (P1 := [(bo, 2, 1, .int qc_136), (bo, 2, 0, .ref qa_136)]) (jP.cons hg_141 (hbO_158 _ _ _ _ (jn1 (by first | assumption | exact Ne.symm (by assumption) | exact jnek hg_141 hg_142 (by decide))) hg_141 (hh_164.at 2 rfl)) (jP.cons hg_141 (hbO_158 _ _ _ _ (jn1 (by first | assumption | exact Ne.symm (by assumption) | exact jnek hg_141 hg_142 (by decide))) hg_141 (hh_164.at 3 rfl)) jP.nil))
            have hd_167 := jOl.trL (hh_164.iv 1 rfl) hh_164.2.2.2.2.1 hbO_158 (by simp)
            have hh_168 := hh_166.addI (jOl.ie (dC := dC) (dI := dI) (G0 := G0) (k := 2) (rs := [bo, ou]) (H0 := s.heap) (F := [(2, 0), (2, 1)]) (C := RX0) (T := TX0) (N := 2) rfl (by decide) hh_166.2.2.2.2.1 (hd_167))
            clear hh_166
            clear hh_164 ht_158 hvm_158 hz_158 hk_158 hS_158 hb_1581 hb_1582 hb_1583 hb_1584 hb_1585
            clear  hbE_158
            refine lv_goto (tgt := 212) hx hb dX11_request_147 (by decide) ?_
            have hsz_169 := hh_168.2.2.2.2.2.1
            have htt_169 := hh_168.2.2.2.2.2.2.1
            refine W.room (fun hrc_169 hrs_169 => ?_)
            refine W.widen (k := LC - s.heap.size) (n := LS - jTot s.heap) (by omega) (by omega) ?_
            rw [hQ]
            exact W.vret hx hb hr (fun t ht hW => ⟨⟨(qc_136, qa_136, m_qa_136, G_136), rfl, by (try dsimp only); exact ⟨(by first | omega | rfl | assumption | fail), (by first | omega | rfl | assumption | fail), (by first | omega | rfl | assumption | fail), (by first | omega | rfl | assumption | fail), (by first | assumption | fail | omega)⟩, ⟨hh_168.ra (by first | omega | (simp only; omega)) (by first | omega | (simp only; omega)) (M1 := [(bo, 2, 1, .int qc_136), (bo, 2, 0, .ref qa_136)]) [0, 1] rfl ht, hgq_136_0, hNn_136, by rw [ht]; exact hh_168.iv 0 rfl, by rw [ht]; exact hh_168.2.2.2.2.2.2.2.2.sub (L1 := [(jFy, jYb dC dI G_136), (jFs11, jSef dC dI G_136), (jFl, jLs dC dI ca G_136 3 none)]) [1, 2, 3] rfl⟩⟩, by rw [ht]; try exact hh_168.1.1, fun q h9 hq => by rw [ht]; try exact hh_168.1.2.1 q h9 hq⟩) hh_168.1.2.2 dX11_request_212
        · skip
          have c_33' : r_5.toInt ≠ 0 := jb_eq_n (rfl) ((by decide)) c_33
          first | (have hr_3_2q := hr_3_2.resolve_left (by omega); clear hr_3_2) | (have hr_3_2q := hr_3_2.resolve_right (by omega); clear hr_3_2) | skip
          first | (have hr_5pq := hr_5p.resolve_left (by omega); clear hr_5p) | (have hr_5pq := hr_5p.resolve_right (by omega); clear hr_5p) | skip
          refine lv_aload_n hx hb dX11_request_95 rfl (lv_at hl 2 rfl) ?_
          refine lv_aload_n hx hb dX11_request_96 rfl (lv_at hl 3 rfl) ?_
          refine lv_sipush (v := (-32600)) hx hb dX11_request_97 (by decide) ?_
          have hsz_170 := hh_7.2.2.2.2.2.1
          have htt_170 := hh_7.2.2.2.2.2.2.1
          refine W.room (fun hrc_170 hrs_170 => ?_)
          refine va_callv (A0 := jA base) (H0 := s.heap) (va_runV (As := [.ref r1, .int (-32600)]) (rest := []) ⟨hx, hb, hml, hown, hts⟩ (uX11_refuse l dC dI ca base B hB hAp hB2 hB4 hB10 hB13 hB196 G0 H_4 r0 r1 (-32600) bo pc pa n_pa ou LC LS) (cwV 2 hts (jgV (jWr_26 _ (List.mem_of_getElem? (i := 3) rfl)) (jWr_26 _ (List.mem_of_getElem? (i := 4) rfl)) (jWr_26 _ (List.mem_of_getElem? (i := 5) rfl)) (jWr_1 _ (List.mem_of_getElem? (i := 2) rfl)) (jWr_26 _ (List.mem_of_getElem? (i := 6) rfl))) rfl rfl rfl (by decide +kernel) ⟨by rw [← hR]; exact Nat.le_of_ble_eq_true rfl, by rw [← hR]; exact Nat.le_of_ble_eq_true rfl⟩) ⟨fun a U g mk q => by obtain ⟨q0, q1, q2, qK, q10, q11, q12, q13, q14, q15, q16, q17⟩ := q; exact ⟨q0, q1, q2, jG.calling g mk a qK, q10, q11, q12, q13, q14, q15, q16, q17⟩, hh_7.recv (C := RX11) (T := TX11) (N := 19) hB13 rfl (by decide) hg_r0 hK, fun U hU hW => ⟨rfl, hU, hh_7.2.1, hG.step hW hU hh_7.1, hg_r1, hg_r0, hg_bo, hg_pa, hg_ou, (hh_7.2.2.1.sub (L1 := [(r0, 13, 4, .ref bo), (bo, 2, 1, .int pc), (bo, 2, 0, .ref pa), (r0, 13, 3, .ref ou)]) [1, 2, 3, 4] rfl), (hh_7.2.2.2.2.2.2.2.2.sub (L1 := [(jFy, jYb dC dI G0)]) [1] rfl), (by omega), (by omega), by first | omega | (refine ⟨?_, ?_, ?_, ?_, ?_⟩ <;> (first | omega | rfl | assumption | decide | exact Or.inl rfl | exact Or.inr rfl | (simp only; omega)))⟩⟩ rfl rfl hl.1 rfl (lv_room (Nat.le_of_ble_eq_true rfl)) dX11_request_100 ⟨by rw [hRc]; omega, by rw [hRs]; omega⟩) hh_7.1 (fun q _ h => h) (fun q h => h) (fun u_170 t_170 H_170 locs_170 ht_170 hvm_170 hr_171 hb_170 hz_170 hk_170 hS_170 => ?_)
          obtain ⟨qc_170, qa_170, m_qa_170, G_170⟩ := u_170
          rw [ht_170] at hb_170
          simp only at hb_170
          obtain ⟨⟨hb_1701, hb_1702, hb_1703, hb_1704, hb_1705, hb_1706⟩, hgq_170_0, hN_170, hbO_170, hbE_170⟩ := hb_170
          have hh_170 : jSt (dC, dI) B base G0 G_170 EX11_request s.heap (0 + ((m_qa_170 - n_pa) / 16)) (0 + (2 * (m_qa_170 - n_pa))) [(bo, 2, 1, .int qc_170), (bo, 2, 0, .ref qa_170), (r0, 13, 11, .int phase_8), (r0, 13, 4, .ref bo), (r0, 13, 3, .ref ou), (r0, 13, 2, .ref js), (js, 6, 7, .int pv), (js, 6, 8, .int pu), (js, 6, 0, .ref wk), (js, 6, 1, .ref wi), (js, 6, 2, .ref wz), (js, 6, 5, .ref jks)] [(wk, 140, 1502, ca 1, fk), (wi, 141, 1502, ca 1, fi), (wz, 142, 1502, ca 1, fz), (jks, 145, 1502, ca 1, fs)] [(jFs11, jSef dC dI G0), (jFl, jLs dC dI ca G0 3 none)] H_170 locs_170 := (hh_7.callG hb_1701 hb_1702 hb_1703 hb_1704 hb_1705 hS_170 rfl (L1 := [(r0, 13, 11, .int phase_8), (r0, 13, 4, .ref bo), (r0, 13, 3, .ref ou), (r0, 13, 2, .ref js), (js, 6, 7, .int pv), (js, 6, 8, .int pu), (js, 6, 0, .ref wk), (js, 6, 1, .ref wi), (js, 6, 2, .ref wz), (js, 6, 5, .ref jks)]) [0, 1, 4, 5, 6, 7, 8, 9, 10, 11] rfl rfl (M1 := [(wk, 140, 1502, ca 1, fk), (wi, 141, 1502, ca 1, fi), (wz, 142, 1502, ca 1, fz), (jks, 145, 1502, ca 1, fs)]) [0, 1, 2, 3] rfl rfl (I1 := [(jFs11, jSef dC dI G0), (jFl, jLs dC dI ca G0 3 none)]) [2, 3] rfl rfl).more hb_1706
          have hNn_170 : (jNk [0, 1, 2, 3, 4, 5, 6, 7, 8, 9, 10, 11, 12, 13, 14, 15, 16]) G0 G_170 := (jNk.rf).tr hN_170
          have hg_172 := hb_1702 _ _ hg_r0
          have hg_173 := hb_1702 _ _ hg_r1
          have hg_174 := hb_1702 _ _ hg_bo
          have hg_175 := hb_1702 _ _ hg_ou
          have hg_176 := hb_1702 _ _ hg_js
          have hg_177 := hb_1702 _ _ hg_wk
          have hg_178 := hb_1702 _ _ hg_wi
          have hg_179 := hb_1702 _ _ hg_wz
          have hg_180 := hb_1702 _ _ hg_jks
          have hd_181 := jSef.grow (hh_170.iv 0 rfl) hb_1702 hN_170 (by decide)
          have hh_182 := hh_170.sub (L1 := [(bo, 2, 1, .int qc_170), (bo, 2, 0, .ref qa_170), (r0, 13, 11, .int phase_8), (r0, 13, 4, .ref bo), (r0, 13, 3, .ref ou), (r0, 13, 2, .ref js), (js, 6, 7, .int pv), (js, 6, 8, .int pu), (js, 6, 0, .ref wk), (js, 6, 1, .ref wi), (js, 6, 2, .ref wz), (js, 6, 5, .ref jks)]) [0, 1, 2, 3, 4, 5, 6, 7, 8, 9, 10, 11] rfl (M1 := [(wk, 140, 1502, ca 1, fk), (wi, 141, 1502, ca 1, fi), (wz, 142, 1502, ca 1, fz), (jks, 145, 1502, ca 1, fs)]) [0, 1, 2, 3] rfl (I1 := [(jFl, jLs dC dI ca G0 3 none)]) [1] rfl
          clear hh_170
          have hh_183 := hh_182.addI (jSef.ie hd_181)
          clear hh_182
          have hd_184 := jLs.grow (hh_183.iv 1 rfl) hb_1702 hN_170 (by decide)
          have hh_185 := hh_183.sub (L1 := [(bo, 2, 1, .int qc_170), (bo, 2, 0, .ref qa_170), (r0, 13, 11, .int phase_8), (r0, 13, 4, .ref bo), (r0, 13, 3, .ref ou), (r0, 13, 2, .ref js), (js, 6, 7, .int pv), (js, 6, 8, .int pu), (js, 6, 0, .ref wk), (js, 6, 1, .ref wi), (js, 6, 2, .ref wz), (js, 6, 5, .ref jks)]) [0, 1, 2, 3, 4, 5, 6, 7, 8, 9, 10, 11] rfl (M1 := [(wk, 140, 1502, ca 1, fk), (wi, 141, 1502, ca 1, fi), (wz, 142, 1502, ca 1, fz), (jks, 145, 1502, ca 1, fs)]) [0, 1, 2, 3] rfl (I1 := [(jFs11, jSef dC dI G_170)]) [0] rfl
          clear hh_183
          have hh_186 := hh_185.addI (jLs.ie hd_184)
          clear hh_185
          have hh_187 := hh_186.addIs hbE_170
          have hd_188 := jOl.trL (hh_7.iv 0 rfl) hh_7.2.2.2.2.1 hbO_170 (by simp)
          have hh_189 := hh_187.addI (jOl.ie (dC := dC) (dI := dI) (G0 := G0) (k := 2) (rs := [bo, ou]) (H0 := s.heap) (F := [(2, 0), (2, 1)]) (C := RX0) (T := TX0) (N := 2) rfl (by decide) hh_187.2.2.2.2.1 (hd_188))
          clear hh_187
          try simp only at hr_171
          obtain ⟨hr_171_0, hr_171_1, hr_171_2, hr_171_3, hr_171_4⟩ := hr_171
          refine lv_goto (tgt := 212) hx hb dX11_request_103 (by decide) ?_
          have hsz_190 := hh_189.2.2.2.2.2.1
          have htt_190 := hh_189.2.2.2.2.2.2.1
          refine W.room (fun hrc_190 hrs_190 => ?_)
          refine W.widen (k := LC - s.heap.size) (n := LS - jTot s.heap) (by omega) (by omega) ?_
          rw [hQ]
          exact W.vret hx hb hr (fun t ht hW => ⟨⟨(qc_170, qa_170, m_qa_170, G_170), rfl, by (try dsimp only); exact ⟨(by first | omega | rfl | assumption | fail), (by first | omega | rfl | assumption | fail), (by first | omega | rfl | assumption | fail), (by first | omega | rfl | assumption | fail), (by first | assumption | fail | omega)⟩, ⟨hh_189.ra (by first | omega | (simp only; omega)) (by first | omega | (simp only; omega)) (M1 := [(bo, 2, 1, .int qc_170), (bo, 2, 0, .ref qa_170)]) [0, 1] rfl ht, hgq_170_0, hNn_170, by rw [ht]; exact hh_189.iv 0 rfl, by rw [ht]; exact hh_189.2.2.2.2.2.2.2.2.sub (L1 := [(jFy, jYb dC dI G_170), (jFs11, jSef dC dI G_170), (jFl, jLs dC dI ca G_170 3 none)]) [1, 3, 2] rfl⟩⟩, by rw [ht]; try exact hh_189.1.1, fun q h9 hq => by rw [ht]; try exact hh_189.1.2.1 q h9 hq⟩) hh_189.1.2.2 dX11_request_212
    · skip
      have c_10' : phase_8.toInt = 0 := jb_ne_n (rfl) ((by decide)) c_10
      exact (by omega : False).elim
  · skip
    have c_9' : phase_8.toInt = 0 := jb_ne_n (rfl) ((by decide)) c_9
    first | (have hr_3_2q := hr_3_2.resolve_left (by omega); clear hr_3_2) | (have hr_3_2q := hr_3_2.resolve_right (by omega); clear hr_3_2) | skip
    refine lv_iload_n hx hb dX11_request_31 rfl (lv_at hl 0 rfl) ?_
    refine lv_if_eq (tgt := 65) hx hb dX11_request_32 (by decide) (fun c_191 => ?_) (fun c_191 => ?_)
    · skip
      have c_191' : r_5.toInt = 0 := jb_eq (rfl) ((by decide)) c_191
      first | (have hr_3_2q := hr_3_2.resolve_left (by omega); clear hr_3_2) | (have hr_3_2q := hr_3_2.resolve_right (by omega); clear hr_3_2) | skip
      first | (have hr_5pq := hr_5p.resolve_left (by omega); clear hr_5p) | (have hr_5pq := hr_5p.resolve_right (by omega); clear hr_5p) | skip
      refine lv_aload_n hx hb dX11_request_65 rfl (lv_at hl 2 rfl) ?_
      refine j7_read hx hb hown hK (C := RX11) (T := TX11) (N := 19) rfl hly_13_11 hlk_77 (hh_7.at 0 rfl) dX11_request_66 ?_
      refine lv_if_ne (tgt := 83) hx hb dX11_request_69 (by decide) (fun c_192 => ?_) (fun c_192 => ?_)
      · skip
        have c_192' : phase_8.toInt ≠ 0 := jb_ne (rfl) ((by decide)) c_192
        exact (by omega : False).elim
      · skip
        have c_192' : phase_8.toInt = 0 := jb_ne_n (rfl) ((by decide)) c_192
        first | (have hr_3_2q := hr_3_2.resolve_left (by omega); clear hr_3_2) | (have hr_3_2q := hr_3_2.resolve_right (by omega); clear hr_3_2) | skip
        refine lv_aload_n hx hb dX11_request_72 rfl (lv_at hl 2 rfl) ?_
        refine lv_aload_n hx hb dX11_request_73 rfl (lv_at hl 3 rfl) ?_
        refine lv_sipush (v := (-32002)) hx hb dX11_request_74 (by decide) ?_
        have hsz_193 := hh_7.2.2.2.2.2.1
        have htt_193 := hh_7.2.2.2.2.2.2.1
        refine W.room (fun hrc_193 hrs_193 => ?_)
        refine va_callv (A0 := jA base) (H0 := s.heap) (va_runV (As := [.ref r1, .int (-32002)]) (rest := []) ⟨hx, hb, hml, hown, hts⟩ (uX11_refuse l dC dI ca base B hB hAp hB2 hB4 hB10 hB13 hB196 G0 H_4 r0 r1 (-32002) bo pc pa n_pa ou LC LS) (cwV 2 hts (jgV (jWr_26 _ (List.mem_of_getElem? (i := 3) rfl)) (jWr_26 _ (List.mem_of_getElem? (i := 4) rfl)) (jWr_26 _ (List.mem_of_getElem? (i := 5) rfl)) (jWr_1 _ (List.mem_of_getElem? (i := 2) rfl)) (jWr_26 _ (List.mem_of_getElem? (i := 6) rfl))) rfl rfl rfl (by decide +kernel) ⟨by rw [← hR]; exact Nat.le_of_ble_eq_true rfl, by rw [← hR]; exact Nat.le_of_ble_eq_true rfl⟩) ⟨fun a U g mk q => by obtain ⟨q0, q1, q2, qK, q10, q11, q12, q13, q14, q15, q16, q17⟩ := q; exact ⟨q0, q1, q2, jG.calling g mk a qK, q10, q11, q12, q13, q14, q15, q16, q17⟩, hh_7.recv (C := RX11) (T := TX11) (N := 19) hB13 rfl (by decide) hg_r0 hK, fun U hU hW => ⟨rfl, hU, hh_7.2.1, hG.step hW hU hh_7.1, hg_r1, hg_r0, hg_bo, hg_pa, hg_ou, (hh_7.2.2.1.sub (L1 := [(r0, 13, 4, .ref bo), (bo, 2, 1, .int pc), (bo, 2, 0, .ref pa), (r0, 13, 3, .ref ou)]) [1, 2, 3, 4] rfl), (hh_7.2.2.2.2.2.2.2.2.sub (L1 := [(jFy, jYb dC dI G0)]) [1] rfl), (by omega), (by omega), by first | omega | (refine ⟨?_, ?_, ?_, ?_, ?_⟩ <;> (first | omega | rfl | assumption | decide | exact Or.inl rfl | exact Or.inr rfl | (simp only; omega)))⟩⟩ rfl rfl hl.1 rfl (lv_room (Nat.le_of_ble_eq_true rfl)) dX11_request_77 ⟨by rw [hRc]; omega, by rw [hRs]; omega⟩) hh_7.1 (fun q _ h => h) (fun q h => h) (fun u_193 t_193 H_193 locs_193 ht_193 hvm_193 hr_194 hb_193 hz_193 hk_193 hS_193 => ?_)
        obtain ⟨qc_193, qa_193, m_qa_193, G_193⟩ := u_193
        rw [ht_193] at hb_193
        simp only at hb_193
        obtain ⟨⟨hb_1931, hb_1932, hb_1933, hb_1934, hb_1935, hb_1936⟩, hgq_193_0, hN_193, hbO_193, hbE_193⟩ := hb_193
        have hh_193 : jSt (dC, dI) B base G0 G_193 EX11_request s.heap (0 + ((m_qa_193 - n_pa) / 16)) (0 + (2 * (m_qa_193 - n_pa))) [(bo, 2, 1, .int qc_193), (bo, 2, 0, .ref qa_193), (r0, 13, 11, .int phase_8), (r0, 13, 4, .ref bo), (r0, 13, 3, .ref ou), (r0, 13, 2, .ref js), (js, 6, 7, .int pv), (js, 6, 8, .int pu), (js, 6, 0, .ref wk), (js, 6, 1, .ref wi), (js, 6, 2, .ref wz), (js, 6, 5, .ref jks)] [(wk, 140, 1502, ca 1, fk), (wi, 141, 1502, ca 1, fi), (wz, 142, 1502, ca 1, fz), (jks, 145, 1502, ca 1, fs)] [(jFs11, jSef dC dI G0), (jFl, jLs dC dI ca G0 3 none)] H_193 locs_193 := (hh_7.callG hb_1931 hb_1932 hb_1933 hb_1934 hb_1935 hS_193 rfl (L1 := [(r0, 13, 11, .int phase_8), (r0, 13, 4, .ref bo), (r0, 13, 3, .ref ou), (r0, 13, 2, .ref js), (js, 6, 7, .int pv), (js, 6, 8, .int pu), (js, 6, 0, .ref wk), (js, 6, 1, .ref wi), (js, 6, 2, .ref wz), (js, 6, 5, .ref jks)]) [0, 1, 4, 5, 6, 7, 8, 9, 10, 11] rfl rfl (M1 := [(wk, 140, 1502, ca 1, fk), (wi, 141, 1502, ca 1, fi), (wz, 142, 1502, ca 1, fz), (jks, 145, 1502, ca 1, fs)]) [0, 1, 2, 3] rfl rfl (I1 := [(jFs11, jSef dC dI G0), (jFl, jLs dC dI ca G0 3 none)]) [2, 3] rfl rfl).more hb_1936
        have hNn_193 : (jNk [0, 1, 2, 3, 4, 5, 6, 7, 8, 9, 10, 11, 12, 13, 14, 15, 16]) G0 G_193 := (jNk.rf).tr hN_193
        have hg_195 := hb_1932 _ _ hg_r0
        have hg_196 := hb_1932 _ _ hg_r1
        have hg_197 := hb_1932 _ _ hg_bo
        have hg_198 := hb_1932 _ _ hg_ou
        have hg_199 := hb_1932 _ _ hg_js
        have hg_200 := hb_1932 _ _ hg_wk
        have hg_201 := hb_1932 _ _ hg_wi
        have hg_202 := hb_1932 _ _ hg_wz
        have hg_203 := hb_1932 _ _ hg_jks
        have hd_204 := jSef.grow (hh_193.iv 0 rfl) hb_1932 hN_193 (by decide)
        have hh_205 := hh_193.sub (L1 := [(bo, 2, 1, .int qc_193), (bo, 2, 0, .ref qa_193), (r0, 13, 11, .int phase_8), (r0, 13, 4, .ref bo), (r0, 13, 3, .ref ou), (r0, 13, 2, .ref js), (js, 6, 7, .int pv), (js, 6, 8, .int pu), (js, 6, 0, .ref wk), (js, 6, 1, .ref wi), (js, 6, 2, .ref wz), (js, 6, 5, .ref jks)]) [0, 1, 2, 3, 4, 5, 6, 7, 8, 9, 10, 11] rfl (M1 := [(wk, 140, 1502, ca 1, fk), (wi, 141, 1502, ca 1, fi), (wz, 142, 1502, ca 1, fz), (jks, 145, 1502, ca 1, fs)]) [0, 1, 2, 3] rfl (I1 := [(jFl, jLs dC dI ca G0 3 none)]) [1] rfl
        clear hh_193
        have hh_206 := hh_205.addI (jSef.ie hd_204)
        clear hh_205
        have hd_207 := jLs.grow (hh_206.iv 1 rfl) hb_1932 hN_193 (by decide)
        have hh_208 := hh_206.sub (L1 := [(bo, 2, 1, .int qc_193), (bo, 2, 0, .ref qa_193), (r0, 13, 11, .int phase_8), (r0, 13, 4, .ref bo), (r0, 13, 3, .ref ou), (r0, 13, 2, .ref js), (js, 6, 7, .int pv), (js, 6, 8, .int pu), (js, 6, 0, .ref wk), (js, 6, 1, .ref wi), (js, 6, 2, .ref wz), (js, 6, 5, .ref jks)]) [0, 1, 2, 3, 4, 5, 6, 7, 8, 9, 10, 11] rfl (M1 := [(wk, 140, 1502, ca 1, fk), (wi, 141, 1502, ca 1, fi), (wz, 142, 1502, ca 1, fz), (jks, 145, 1502, ca 1, fs)]) [0, 1, 2, 3] rfl (I1 := [(jFs11, jSef dC dI G_193)]) [0] rfl
        clear hh_206
        have hh_209 := hh_208.addI (jLs.ie hd_207)
        clear hh_208
        have hh_210 := hh_209.addIs hbE_193
        have hd_211 := jOl.trL (hh_7.iv 0 rfl) hh_7.2.2.2.2.1 hbO_193 (by simp)
        have hh_212 := hh_210.addI (jOl.ie (dC := dC) (dI := dI) (G0 := G0) (k := 2) (rs := [bo, ou]) (H0 := s.heap) (F := [(2, 0), (2, 1)]) (C := RX0) (T := TX0) (N := 2) rfl (by decide) hh_210.2.2.2.2.1 (hd_211))
        clear hh_210
        try simp only at hr_194
        obtain ⟨hr_194_0, hr_194_1, hr_194_2, hr_194_3, hr_194_4⟩ := hr_194
        refine lv_goto (tgt := 212) hx hb dX11_request_80 (by decide) ?_
        have hsz_213 := hh_212.2.2.2.2.2.1
        have htt_213 := hh_212.2.2.2.2.2.2.1
        refine W.room (fun hrc_213 hrs_213 => ?_)
        refine W.widen (k := LC - s.heap.size) (n := LS - jTot s.heap) (by omega) (by omega) ?_
        rw [hQ]
        exact W.vret hx hb hr (fun t ht hW => ⟨⟨(qc_193, qa_193, m_qa_193, G_193), rfl, by (try dsimp only); exact ⟨(by first | omega | rfl | assumption | fail), (by first | omega | rfl | assumption | fail), (by first | omega | rfl | assumption | fail), (by first | omega | rfl | assumption | fail), (by first | assumption | fail | omega)⟩, ⟨hh_212.ra (by first | omega | (simp only; omega)) (by first | omega | (simp only; omega)) (M1 := [(bo, 2, 1, .int qc_193), (bo, 2, 0, .ref qa_193)]) [0, 1] rfl ht, hgq_193_0, hNn_193, by rw [ht]; exact hh_212.iv 0 rfl, by rw [ht]; exact hh_212.2.2.2.2.2.2.2.2.sub (L1 := [(jFy, jYb dC dI G_193), (jFs11, jSef dC dI G_193), (jFl, jLs dC dI ca G_193 3 none)]) [1, 3, 2] rfl⟩⟩, by rw [ht]; try exact hh_212.1.1, fun q h9 hq => by rw [ht]; try exact hh_212.1.2.1 q h9 hq⟩) hh_212.1.2.2 dX11_request_212
    · skip
      have c_191' : r_5.toInt ≠ 0 := jb_eq_n (rfl) ((by decide)) c_191
      first | (have hr_3_2q := hr_3_2.resolve_left (by omega); clear hr_3_2) | (have hr_3_2q := hr_3_2.resolve_right (by omega); clear hr_3_2) | skip
      first | (have hr_5pq := hr_5p.resolve_left (by omega); clear hr_5p) | (have hr_5pq := hr_5p.resolve_right (by omega); clear hr_5p) | skip
      refine lv_aload_n hx hb dX11_request_35 rfl (lv_at hl 2 rfl) ?_
      refine lv_iconst (v := 1) hx hb dX11_request_36 (by decide) ?_
      refine j7_put hx hb hown hK hh_7 hB hAp hB13 (C := RX11) (T := TX11) (N := 19) rfl (by decide) hg_r0 (i := 11) (by decide) hly_13_11 rfl hlk_77 rfl (ty := .int) (v := .int 1) (by decide +kernel) rfl rfl (⟨_, rfl, by omega, by omega⟩) rfl (L1 := [(r0, 13, 4, .ref bo), (bo, 2, 1, .int pc), (bo, 2, 0, .ref pa), (r0, 13, 3, .ref ou), (r0, 13, 2, .ref js), (js, 6, 7, .int pv), (js, 6, 8, .int pu), (js, 6, 0, .ref wk), (js, 6, 1, .ref wi), (js, 6, 2, .ref wz), (js, 6, 5, .ref jks)]) [1, 2, 3, 4, 5, 6, 7, 8, 9, 10, 11] rfl rfl rfl dX11_request_37 (fun H_214 locs_214 hh_214 => ?_)
      clear hh_7
      refine lv_aload_n hx hb dX11_request_40 rfl (lv_at hl 2 rfl) ?_
      refine lv_aload_n hx hb dX11_request_41 rfl (lv_at hl 3 rfl) ?_
      refine j_ldcSw hx hb hown rstr289 dX11_request_42 ?_
      have hsz_215 := hh_214.2.2.2.2.2.1
      have htt_215 := hh_214.2.2.2.2.2.2.1
      refine W.room (fun hrc_215 hrs_215 => ?_)
      refine va_callv (A0 := jA base) (H0 := s.heap) (va_runV (As := [.ref r1, .ref str289]) (rest := []) ⟨hx, hb, hml, hown, hts⟩ (uX11_beginAnswer l dC dI ca base B hB hAp hB2 hB10 hB13 hB196 G0 H_214 r0 r1 str289 10 bo pc pa n_pa LC LS) (cwV 2 hts (jgV (jWr_26 _ (List.mem_of_getElem? (i := 7) rfl)) (jWr_26 _ (List.mem_of_getElem? (i := 8) rfl)) (jWr_26 _ (List.mem_of_getElem? (i := 9) rfl)) (jWr_1 _ (List.mem_of_getElem? (i := 2) rfl)) (jWr_26 _ (List.mem_of_getElem? (i := 10) rfl))) rfl rfl rfl (by decide +kernel) ⟨by rw [← hR]; exact Nat.le_of_ble_eq_true rfl, by rw [← hR]; exact Nat.le_of_ble_eq_true rfl⟩) ⟨fun a U g mk q => by obtain ⟨q0, q1, q2, qK, q10, q11, q12, q13, q14, q15, q16, q17⟩ := q; exact ⟨q0, q1, q2, jG.calling g mk a qK, (q10.moved (Vm.Alike.refl U.vm)), q11, q12, q13, q14, q15, q16, q17⟩, hh_214.recv (C := RX11) (T := TX11) (N := 19) hB13 rfl (by decide) hg_r0 hK, fun U hU hW => ⟨rfl, hU, hh_214.2.1, hG.step hW hU hh_214.1, (hstr289.moved hW.alike).kept hh_214.1.2.1, hg_r1, hg_r0, hg_bo, hg_pa, (hh_214.2.2.1.sub (L1 := [(r0, 13, 4, .ref bo), (bo, 2, 1, .int pc), (bo, 2, 0, .ref pa)]) [1, 2, 3] rfl), (hh_214.2.2.2.2.2.2.2.2.sub (L1 := [(jFy, jYb dC dI G0)]) [1] rfl), (by omega), (by omega), by first | omega | (refine ⟨?_, ?_, ?_, ?_, ?_, ?_⟩ <;> (first | omega | rfl | assumption | decide | exact Or.inl rfl | exact Or.inr rfl | (simp only; omega)))⟩⟩ rfl rfl hl.1 rfl (lv_room (Nat.le_of_ble_eq_true rfl)) dX11_request_45 ⟨by rw [hRc]; omega, by rw [hRs]; omega⟩) hh_214.1 (fun q _ h => h) (fun q h => h) (fun u_215 t_215 H_215 locs_215 ht_215 hvm_215 hr_216 hb_215 hz_215 hk_215 hS_215 => ?_)
      obtain ⟨qc_215, qa_215, m_qa_215, G_215⟩ := u_215
      rw [ht_215] at hb_215
      simp only at hb_215
      obtain ⟨⟨hb_2151, hb_2152, hb_2153, hb_2154, hb_2155, hb_2156⟩, hgq_215_0, hN_215, hbO_215, hbE_215⟩ := hb_215
      have hh_215 : jSt (dC, dI) B base G0 G_215 EX11_request s.heap (0 + ((m_qa_215 - n_pa) / 16)) (0 + (2 * (m_qa_215 - n_pa))) [(bo, 2, 1, .int qc_215), (bo, 2, 0, .ref qa_215), (r0, 13, 11, .int 1), (r0, 13, 4, .ref bo), (r0, 13, 3, .ref ou), (r0, 13, 2, .ref js), (js, 6, 7, .int pv), (js, 6, 8, .int pu), (js, 6, 0, .ref wk), (js, 6, 1, .ref wi), (js, 6, 2, .ref wz), (js, 6, 5, .ref jks)] [(wk, 140, 1502, ca 1, fk), (wi, 141, 1502, ca 1, fi), (wz, 142, 1502, ca 1, fz), (jks, 145, 1502, ca 1, fs)] [(jFs11, jSef dC dI G0), (jFl, jLs dC dI ca G0 3 none)] H_215 locs_215 := (hh_214.callG hb_2151 hb_2152 hb_2153 hb_2154 hb_2155 hS_215 rfl (L1 := [(r0, 13, 11, .int 1), (r0, 13, 4, .ref bo), (r0, 13, 3, .ref ou), (r0, 13, 2, .ref js), (js, 6, 7, .int pv), (js, 6, 8, .int pu), (js, 6, 0, .ref wk), (js, 6, 1, .ref wi), (js, 6, 2, .ref wz), (js, 6, 5, .ref jks)]) [0, 1, 4, 5, 6, 7, 8, 9, 10, 11] rfl rfl (M1 := [(wk, 140, 1502, ca 1, fk), (wi, 141, 1502, ca 1, fi), (wz, 142, 1502, ca 1, fz), (jks, 145, 1502, ca 1, fs)]) [0, 1, 2, 3] rfl rfl (I1 := [(jFs11, jSef dC dI G0), (jFl, jLs dC dI ca G0 3 none)]) [2, 3] rfl rfl).more hb_2156
      have hNn_215 : (jNk [0, 1, 2, 3, 4, 5, 6, 7, 8, 9, 10, 11, 12, 13, 14, 15, 16]) G0 G_215 := (jNk.rf).tr hN_215
      have hg_217 := hb_2152 _ _ hg_r0
      have hg_218 := hb_2152 _ _ hg_r1
      have hg_219 := hb_2152 _ _ hg_bo
      have hg_220 := hb_2152 _ _ hg_ou
      have hg_221 := hb_2152 _ _ hg_js
      have hg_222 := hb_2152 _ _ hg_wk
      have hg_223 := hb_2152 _ _ hg_wi
      have hg_224 := hb_2152 _ _ hg_wz
      have hg_225 := hb_2152 _ _ hg_jks
      have hd_226 := jSef.grow (hh_215.iv 0 rfl) hb_2152 hN_215 (by decide)
      have hh_227 := hh_215.sub (L1 := [(bo, 2, 1, .int qc_215), (bo, 2, 0, .ref qa_215), (r0, 13, 11, .int 1), (r0, 13, 4, .ref bo), (r0, 13, 3, .ref ou), (r0, 13, 2, .ref js), (js, 6, 7, .int pv), (js, 6, 8, .int pu), (js, 6, 0, .ref wk), (js, 6, 1, .ref wi), (js, 6, 2, .ref wz), (js, 6, 5, .ref jks)]) [0, 1, 2, 3, 4, 5, 6, 7, 8, 9, 10, 11] rfl (M1 := [(wk, 140, 1502, ca 1, fk), (wi, 141, 1502, ca 1, fi), (wz, 142, 1502, ca 1, fz), (jks, 145, 1502, ca 1, fs)]) [0, 1, 2, 3] rfl (I1 := [(jFl, jLs dC dI ca G0 3 none)]) [1] rfl
      clear hh_215
      have hh_228 := hh_227.addI (jSef.ie hd_226)
      clear hh_227
      have hd_229 := jLs.grow (hh_228.iv 1 rfl) hb_2152 hN_215 (by decide)
      have hh_230 := hh_228.sub (L1 := [(bo, 2, 1, .int qc_215), (bo, 2, 0, .ref qa_215), (r0, 13, 11, .int 1), (r0, 13, 4, .ref bo), (r0, 13, 3, .ref ou), (r0, 13, 2, .ref js), (js, 6, 7, .int pv), (js, 6, 8, .int pu), (js, 6, 0, .ref wk), (js, 6, 1, .ref wi), (js, 6, 2, .ref wz), (js, 6, 5, .ref jks)]) [0, 1, 2, 3, 4, 5, 6, 7, 8, 9, 10, 11] rfl (M1 := [(wk, 140, 1502, ca 1, fk), (wi, 141, 1502, ca 1, fi), (wz, 142, 1502, ca 1, fz), (jks, 145, 1502, ca 1, fs)]) [0, 1, 2, 3] rfl (I1 := [(jFs11, jSef dC dI G_215)]) [0] rfl
      clear hh_228
      have hh_231 := hh_230.addI (jLs.ie hd_229)
      clear hh_230
      have hh_232 := hh_231.addIs hbE_215
      have hd_233 := jOl.trL (hh_214.iv 0 rfl) hh_214.2.2.2.2.1 hbO_215 (by simp)
      have hh_234 := hh_232.addI (jOl.ie (dC := dC) (dI := dI) (G0 := G0) (k := 2) (rs := [bo, ou]) (H0 := s.heap) (F := [(2, 0), (2, 1)]) (C := RX0) (T := TX0) (N := 2) rfl (by decide) hh_232.2.2.2.2.1 (hd_233))
      clear hh_232
      try simp only at hr_216
      obtain ⟨hr_216_0, hr_216_1, hr_216_2, hr_216_3, hr_216_4⟩ := hr_216
      refine lv_aload_n hx hb dX11_request_48 rfl (lv_at hl 2 rfl) ?_
      refine j7_read hx hb hown hK (C := RX11) (T := TX11) (N := 19) rfl hly_13_4 hlk_35 (hh_234.at 3 rfl) dX11_request_49 ?_
      refine j_ldcSw hx hb hown rstr295 dX11_request_52 ?_
      have hsz_235 := hh_234.2.2.2.2.2.1
      have htt_235 := hh_234.2.2.2.2.2.2.1
      refine W.room (fun hrc_235 hrs_235 => ?_)
      refine va_callv (A0 := jA base) (H0 := s.heap) (va_runV (As := [.ref str295]) (rest := []) ⟨hx, hb, hml, hown, hts⟩ (uX0_text l dC dI ca base B hB hAp hB2 hB196 G_215 H_215 bo str295 40 qc_215 qa_215 m_qa_215 LC LS) (cwV 1 hts (jgV (jWr_26 _ (List.mem_of_getElem? (i := 11) rfl)) (jWr_25 _ (List.mem_of_getElem? (i := 22) rfl)) (jWr_25 _ (List.mem_of_getElem? (i := 23) rfl)) (jWr_1 _ (List.mem_of_getElem? (i := 14) rfl)) (jWr_26 _ (List.mem_of_getElem? (i := 0) rfl))) rfl rfl rfl (by decide +kernel) ⟨by rw [← hR]; exact Nat.le_of_ble_eq_true rfl, by rw [← hR]; exact Nat.le_of_ble_eq_true rfl⟩) ⟨fun a U g mk q => by obtain ⟨q0, q1, q2, qK, q10, q11, q12, q13, q14⟩ := q; exact ⟨q0, q1, q2, jG.calling g mk a qK, (q10.moved (Vm.Alike.refl U.vm)), q11, q12, q13, q14⟩, hh_234.recv (C := RX0) (T := TX0) (N := 2) hB2 rfl (by decide) hg_219 hK, fun U hU hW => ⟨rfl, hU, hh_234.2.1, hG.step hW hU hh_234.1, (hstr295.moved hW.alike).kept hh_234.1.2.1, hg_219, hgq_215_0, (hh_234.2.2.1.sub (L1 := [(bo, 2, 1, .int qc_215), (bo, 2, 0, .ref qa_215)]) [0, 1] rfl), (by omega), (by omega), by first | omega | (refine ⟨?_, ?_, ?_, ?_, ?_, ?_⟩ <;> (first | omega | rfl | assumption | decide | exact Or.inl rfl | exact Or.inr rfl | (simp only; omega)))⟩⟩ rfl rfl hl.1 rfl (lv_room (Nat.le_of_ble_eq_true rfl)) dX11_request_55 ⟨by rw [hRc]; omega, by rw [hRs]; omega⟩) hh_234.1 (fun q _ h => h) (fun q h => h) (fun u_235 t_235 H_235 locs_235 ht_235 hvm_235 hr_236 hb_235 hz_235 hk_235 hS_235 => ?_)
      obtain ⟨qc_235, qa_235, m_qa_235, G_235⟩ := u_235
      rw [ht_235] at hb_235
      simp only at hb_235
      obtain ⟨⟨hb_2351, hb_2352, hb_2353, hb_2354, hb_2355, hb_2356⟩, hgq_235_0, hN_235, hbO_235⟩ := hb_235
      have hy_237 := hh_234.iv 1 rfl
      have hh_235 : jSt (dC, dI) B base G0 G_235 EX11_request s.heap ((0 + ((m_qa_215 - n_pa) / 16)) + ((m_qa_235 - m_qa_215) / 16)) ((0 + (2 * (m_qa_215 - n_pa))) + (2 * (m_qa_235 - m_qa_215))) [(bo, 2, 1, .int qc_235), (bo, 2, 0, .ref qa_235), (r0, 13, 11, .int 1), (r0, 13, 4, .ref bo), (r0, 13, 3, .ref ou), (r0, 13, 2, .ref js), (js, 6, 7, .int pv), (js, 6, 8, .int pu), (js, 6, 0, .ref wk), (js, 6, 1, .ref wi), (js, 6, 2, .ref wz), (js, 6, 5, .ref jks)] [(wk, 140, 1502, ca 1, fk), (wi, 141, 1502, ca 1, fi), (wz, 142, 1502, ca 1, fz), (jks, 145, 1502, ca 1, fs)] [(jFl, jLs dC dI ca G_215 3 none), (jFs11, jSef dC dI G_215)] H_235 locs_235 := (hh_234.callG hb_2351 hb_2352 hb_2353 hb_2354 hb_2355 hS_235 rfl (L1 := [(r0, 13, 11, .int 1), (r0, 13, 4, .ref bo), (r0, 13, 3, .ref ou), (r0, 13, 2, .ref js), (js, 6, 7, .int pv), (js, 6, 8, .int pu), (js, 6, 0, .ref wk), (js, 6, 1, .ref wi), (js, 6, 2, .ref wz), (js, 6, 5, .ref jks)]) [2, 3, 4, 5, 6, 7, 8, 9, 10, 11] rfl rfl (M1 := [(wk, 140, 1502, ca 1, fk), (wi, 141, 1502, ca 1, fi), (wz, 142, 1502, ca 1, fz), (jks, 145, 1502, ca 1, fs)]) [0, 1, 2, 3] rfl rfl (I1 := [(jFl, jLs dC dI ca G_215 3 none), (jFs11, jSef dC dI G_215)]) [2, 3] rfl rfl).more hb_2356
      have hNn_235 : (jNk [0, 1, 2, 3, 4, 5, 6, 7, 8, 9, 10, 11, 12, 13, 14, 15, 16]) G0 G_235 := (hNn_215).tr hN_235
      have hg_238 := hb_2352 _ _ hg_217
      have hg_239 := hb_2352 _ _ hg_218
      have hg_240 := hb_2352 _ _ hg_219
      have hg_241 := hb_2352 _ _ hg_220
      have hg_242 := hb_2352 _ _ hg_221
      have hg_243 := hb_2352 _ _ hg_222
      have hg_244 := hb_2352 _ _ hg_223
      have hg_245 := hb_2352 _ _ hg_224
      have hg_246 := hb_2352 _ _ hg_225
      have hd_247 := jLs.grow (hh_235.iv 0 rfl) hb_2352 hN_235 (by decide)
      have hh_248 := hh_235.sub (L1 := [(bo, 2, 1, .int qc_235), (bo, 2, 0, .ref qa_235), (r0, 13, 11, .int 1), (r0, 13, 4, .ref bo), (r0, 13, 3, .ref ou), (r0, 13, 2, .ref js), (js, 6, 7, .int pv), (js, 6, 8, .int pu), (js, 6, 0, .ref wk), (js, 6, 1, .ref wi), (js, 6, 2, .ref wz), (js, 6, 5, .ref jks)]) [0, 1, 2, 3, 4, 5, 6, 7, 8, 9, 10, 11] rfl (M1 := [(wk, 140, 1502, ca 1, fk), (wi, 141, 1502, ca 1, fi), (wz, 142, 1502, ca 1, fz), (jks, 145, 1502, ca 1, fs)]) [0, 1, 2, 3] rfl (I1 := [(jFs11, jSef dC dI G_215)]) [1] rfl
      clear hh_235
      have hh_249 := hh_248.addI (jLs.ie hd_247)
      clear hh_248
      have hd_250 := jSef.grow (hh_249.iv 1 rfl) hb_2352 hN_235 (by decide)
      have hh_251 := hh_249.sub (L1 := [(bo, 2, 1, .int qc_235), (bo, 2, 0, .ref qa_235), (r0, 13, 11, .int 1), (r0, 13, 4, .ref bo), (r0, 13, 3, .ref ou), (r0, 13, 2, .ref js), (js, 6, 7, .int pv), (js, 6, 8, .int pu), (js, 6, 0, .ref wk), (js, 6, 1, .ref wi), (js, 6, 2, .ref wz), (js, 6, 5, .ref jks)]) [0, 1, 2, 3, 4, 5, 6, 7, 8, 9, 10, 11] rfl (M1 := [(wk, 140, 1502, ca 1, fk), (wi, 141, 1502, ca 1, fi), (wz, 142, 1502, ca 1, fz), (jks, 145, 1502, ca 1, fs)]) [0, 1, 2, 3] rfl (I1 := [(jFl, jLs dC dI ca G_235 3 none)]) [0] rfl
      clear hh_249
      have hh_252 := hh_251.addI (jSef.ie hd_250)
      clear hh_251
      have hd_253 := jOl.trO (hh_234.iv 0 rfl) hh_234.2.2.2.2.1 hbO_235 (by simp)
      have hh_254 := hh_252.addI (jOl.ie (dC := dC) (dI := dI) (G0 := G0) (k := 2) (rs := [bo, ou]) (H0 := s.heap) (F := [(2, 0), (2, 1)]) (C := RX0) (T := TX0) (N := 2) rfl (by decide) hh_252.2.2.2.2.1 (hd_253))
      clear hh_252
      have hyp_235 : qc_235.toInt ≤ (m_qa_235 : Nat) ∧ m_qa_235 ≤ 1048576 := by (try simp only at hr_236); omega
      have hy_255 := jYb.own hy_237 hbO_235 hb_2352 hN_235 (by decide) (fun _ => ⟨_, _, _, hh_254.at 0 rfl, hh_254.at 1 rfl, hgq_235_0, hyp_235⟩)
      have hh_256 := hh_254.addI (jYb.ie hy_255)
      clear hh_254
      try simp only at hr_236
      obtain ⟨hr_236_0, hr_236_1, hr_236_2, hr_236_3, hr_236_4⟩ := hr_236
      refine lv_aload_n hx hb dX11_request_58 rfl (lv_at hl 2 rfl) ?_
      obtain ⟨v_259, hv_259, hh_260⟩ := hh_256.pin (C := RX0) (T := TX0) (N := 2) hB2 rfl (by decide) hg_241 (i := 1) (by decide) rfl
      obtain ⟨count_261, rfl, hlocount_261, hhicount_261, hfxcount_261⟩ := hv_259
      obtain ⟨v_262, hv_262, hh_263⟩ := hh_260.pin (C := RX0) (T := TX0) (N := 2) hB2 rfl (by decide) hg_241 (i := 0) (by decide) rfl
      obtain ⟨row_264, nrow_264, rfl, hg_row_264, hlorow_264, hhirow_264, hpwrow_264, hfxrow_264⟩ := hv_262
      have hsz_257 := hh_263.2.2.2.2.2.1
      have htt_257 := hh_263.2.2.2.2.2.2.1
      refine W.room (fun hrc_257 hrs_257 => ?_)
      refine va_callv (A0 := jA base) (H0 := s.heap) (va_runV (As := []) (rest := []) ⟨hx, hb, hml, hown, hts⟩ (uX11_send l dC dI ca base B hB hAp hB2 hB4 hB13 hB196 G_235 H_235 r0 bo qc_235 qa_235 m_qa_235 ou count_261 row_264 nrow_264) (cwV 0 hts (jgV (jWr_26 _ (List.mem_of_getElem? (i := 20) rfl)) (jWr_26 _ (List.mem_of_getElem? (i := 21) rfl)) (jWr_26 _ (List.mem_of_getElem? (i := 22) rfl)) (jWr_1 _ (List.mem_of_getElem? (i := 2) rfl)) (jWr_26 _ (List.mem_of_getElem? (i := 23) rfl))) rfl rfl rfl (by decide +kernel) ⟨by rw [← hR]; exact Nat.le_of_ble_eq_true rfl, by rw [← hR]; exact Nat.le_of_ble_eq_true rfl⟩) ⟨fun a U g mk q => by obtain ⟨q0, q1, q2, qK, q10, q11, q12, q13, q14, q15, q16, q17⟩ := q; exact ⟨q0, q1, q2, jG.calling g mk a qK, q10, q11, q12, q13, q14, q15, q16, q17⟩, hh_263.recv (C := RX11) (T := TX11) (N := 19) hB13 rfl (by decide) hg_238 hK, fun U hU hW => ⟨rfl, hU, hh_263.2.1, hG.step hW hU hh_263.1, hg_238, hg_240, hgq_235_0, hg_241, hg_row_264, (hh_263.2.2.1.sub (L1 := [(r0, 13, 4, .ref bo), (bo, 2, 1, .int qc_235), (bo, 2, 0, .ref qa_235), (r0, 13, 3, .ref ou), (ou, 2, 1, .int count_261), (ou, 2, 0, .ref row_264)]) [5, 2, 3, 6, 1, 0] rfl), (hh_263.2.2.2.2.2.2.2.2.sub (L1 := [(jFy, jYb dC dI G_235)]) [0] rfl), by first | omega | (refine ⟨?_, ?_, ?_, ?_, ?_, ?_⟩ <;> (first | omega | rfl | assumption | decide | exact Or.inl rfl | exact Or.inr rfl | (simp only; omega)))⟩⟩ rfl rfl hl.1 rfl (lv_room (Nat.le_of_ble_eq_true rfl)) dX11_request_59 ⟨by rw [hRc]; show _ + 0 ≤ _; omega, by rw [hRs]; show _ + 0 ≤ _; omega⟩) hh_263.1 (fun q _ h => h) (fun q h => h) (fun u_257 t_257 H_257 locs_257 ht_257 hvm_257 hr_258 hb_257 hz_257 hk_257 hS_257 => ?_)
      rw [ht_257] at hb_257
      obtain ⟨hb_257, hbE_257⟩ := hb_257
      obtain ⟨hb_257, hbO_257⟩ := hb_257
      obtain ⟨hb_2571, hb_2572, hb_2573, hb_2574, hb_2575⟩ := hb_257
      have hh_257 : jSt (dC, dI) B base G0 G_235 EX11_request s.heap ((0 + ((m_qa_215 - n_pa) / 16)) + ((m_qa_235 - m_qa_215) / 16)) ((0 + (2 * (m_qa_215 - n_pa))) + (2 * (m_qa_235 - m_qa_215))) [(r0, 13, 11, .int 1), (r0, 13, 4, .ref bo), (r0, 13, 3, .ref ou), (r0, 13, 2, .ref js), (js, 6, 7, .int pv), (js, 6, 8, .int pu), (js, 6, 0, .ref wk), (js, 6, 1, .ref wi), (js, 6, 2, .ref wz), (js, 6, 5, .ref jks)] [(wk, 140, 1502, ca 1, fk), (wi, 141, 1502, ca 1, fi), (wz, 142, 1502, ca 1, fz), (jks, 145, 1502, ca 1, fs)] [(jFy, jYb dC dI G_235), (jFs11, jSef dC dI G_235), (jFl, jLs dC dI ca G_235 3 none)] H_257 locs_257 := (((hh_263.call hb_2571 hb_2572 hb_2573 hb_2574 hS_257 rfl (L1 := [(r0, 13, 11, .int 1), (r0, 13, 4, .ref bo), (r0, 13, 3, .ref ou), (r0, 13, 2, .ref js), (js, 6, 7, .int pv), (js, 6, 8, .int pu), (js, 6, 0, .ref wk), (js, 6, 1, .ref wi), (js, 6, 2, .ref wz), (js, 6, 5, .ref jks)]) [4, 5, 6, 7, 8, 9, 10, 11, 12, 13] rfl rfl (M1 := [(wk, 140, 1502, ca 1, fk), (wi, 141, 1502, ca 1, fi), (wz, 142, 1502, ca 1, fz), (jks, 145, 1502, ca 1, fs)]) [0, 1, 2, 3] rfl rfl (I1 := [(jFs11, jSef dC dI G_235), (jFl, jLs dC dI ca G_235 3 none)]) [2, 3] rfl rfl).more hb_2575)).addIs hbE_257
      have hh_265 := hh_257.more (P1 := [(bo, 2, 1, .int qc_235), (bo, 2, 0, .ref qa_235)]) (jP.cons hg_240 (hbO_257 _ _ _ _ (jn1 (by first | assumption | exact Ne.symm (by assumption) | exact jnek hg_240 hg_241 (by decide))) hg_240 (hh_263.at 2 rfl)) (jP.cons hg_240 (hbO_257 _ _ _ _ (jn1 (by first | assumption | exact Ne.symm (by assumption) | exact jnek hg_240 hg_241 (by decide))) hg_240 (hh_263.at 3 rfl)) jP.nil))
      have hd_266 := jOl.trL (hh_263.iv 1 rfl) hh_263.2.2.2.2.1 hbO_257 (by simp)
      have hh_267 := hh_265.addI (jOl.ie (dC := dC) (dI := dI) (G0 := G0) (k := 2) (rs := [bo, ou]) (H0 := s.heap) (F := [(2, 0), (2, 1)]) (C := RX0) (T := TX0) (N := 2) rfl (by decide) hh_265.2.2.2.2.1 (hd_266))
      clear hh_265
      clear hh_263 ht_257 hvm_257 hz_257 hk_257 hS_257 hb_2571 hb_2572 hb_2573 hb_2574 hb_2575
      clear  hbE_257
      refine lv_goto (tgt := 212) hx hb dX11_request_62 (by decide) ?_
      have hsz_268 := hh_267.2.2.2.2.2.1
      have htt_268 := hh_267.2.2.2.2.2.2.1
      refine W.room (fun hrc_268 hrs_268 => ?_)
      refine W.widen (k := LC - s.heap.size) (n := LS - jTot s.heap) (by omega) (by omega) ?_
      rw [hQ]
      exact W.vret hx hb hr (fun t ht hW => ⟨⟨(qc_235, qa_235, m_qa_235, G_235), rfl, by (try dsimp only); exact ⟨(by first | omega | rfl | assumption | fail), (by first | omega | rfl | assumption | fail), (by first | omega | rfl | assumption | fail), (by first | omega | rfl | assumption | fail), (by first | assumption | fail | omega)⟩, ⟨hh_267.ra (by first | omega | (simp only; omega)) (by first | omega | (simp only; omega)) (M1 := [(bo, 2, 1, .int qc_235), (bo, 2, 0, .ref qa_235)]) [0, 1] rfl ht, hgq_235_0, hNn_235, by rw [ht]; exact hh_267.iv 0 rfl, by rw [ht]; exact hh_267.2.2.2.2.2.2.2.2.sub (L1 := [(jFy, jYb dC dI G_235), (jFs11, jSef dC dI G_235), (jFl, jLs dC dI ca G_235 3 none)]) [1, 2, 3] rfl⟩⟩, by rw [ht]; try exact hh_267.1.1, fun q h9 hq => by rw [ht]; try exact hh_267.1.2.1 q h9 hq⟩) hh_267.1.2.2 dX11_request_212
