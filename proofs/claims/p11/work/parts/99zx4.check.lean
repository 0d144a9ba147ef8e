theorem dX1_init_0 : decode cX1_init 0 = .ok (.aload_n 0, 1) := by decide +kernel
theorem dX1_init_1 : decode cX1_init 1 = .ok (.invokespecial 3, 3) := by decide +kernel
theorem dX1_init_4 : decode cX1_init 4 = .ok (.aload_n 0, 1) := by decide +kernel
theorem dX1_init_5 : decode cX1_init 5 = .ok (.iconst 0, 1) := by decide +kernel
theorem dX1_init_6 : decode cX1_init 6 = .ok (.newarray .int, 2) := by decide +kernel
theorem dX1_init_8 : decode cX1_init 8 = .ok (.putfield 9, 3) := by decide +kernel
theorem dX1_init_11 : decode cX1_init 11 = .ok (.aload_n 0, 1) := by decide +kernel
theorem dX1_init_12 : decode cX1_init 12 = .ok (.sipush 1500, 3) := by decide +kernel
theorem dX1_init_15 : decode cX1_init 15 = .ok (.newarray .int, 2) := by decide +kernel
theorem dX1_init_17 : decode cX1_init 17 = .ok (.putfield 15, 3) := by decide +kernel
theorem dX1_init_20 : decode cX1_init 20 = .ok (.aload_n 0, 1) := by decide +kernel
theorem dX1_init_21 : decode cX1_init 21 = .ok (.bipush 40, 2) := by decide +kernel
theorem dX1_init_23 : decode cX1_init 23 = .ok (.newarray .int, 2) := by decide +kernel
theorem dX1_init_25 : decode cX1_init 25 = .ok (.putfield 18, 3) := by decide +kernel
theorem dX1_init_28 : decode cX1_init 28 = .ok (.aload_n 0, 1) := by decide +kernel
theorem dX1_init_29 : decode cX1_init 29 = .ok (.bipush 40, 2) := by decide +kernel
theorem dX1_init_31 : decode cX1_init 31 = .ok (.newarray .int, 2) := by decide +kernel
theorem dX1_init_33 : decode cX1_init 33 = .ok (.putfield 21, 3) := by decide +kernel
theorem dX1_init_36 : decode cX1_init 36 = .ok (.aload_n 0, 1) := by decide +kernel
theorem dX1_init_37 : decode cX1_init 37 = .ok (.bipush 40, 2) := by decide +kernel
theorem dX1_init_39 : decode cX1_init 39 = .ok (.newarray .int, 2) := by decide +kernel
theorem dX1_init_41 : decode cX1_init 41 = .ok (.putfield 24, 3) := by decide +kernel
theorem dX1_init_44 : decode cX1_init 44 = .ok (.aload_n 0, 1) := by decide +kernel
theorem dX1_init_45 : decode cX1_init 45 = .ok (.bipush 40, 2) := by decide +kernel
theorem dX1_init_47 : decode cX1_init 47 = .ok (.newarray .int, 2) := by decide +kernel
theorem dX1_init_49 : decode cX1_init 49 = .ok (.putfield 27, 3) := by decide +kernel
theorem dX1_init_52 : decode cX1_init 52 = .ok (.aload_n 0, 1) := by decide +kernel
theorem dX1_init_53 : decode cX1_init 53 = .ok (.bipush 40, 2) := by decide +kernel
theorem dX1_init_55 : decode cX1_init 55 = .ok (.anewarray 30, 3) := by decide +kernel
theorem dX1_init_58 : decode cX1_init 58 = .ok (.putfield 32, 3) := by decide +kernel
theorem dX1_init_61 : decode cX1_init 61 = .ok (.return_, 1) := by decide +kernel
theorem dX5_init_0 : decode cX5_init 0 = .ok (.aload_n 0, 1) := by decide +kernel
theorem dX5_init_1 : decode cX5_init 1 = .ok (.invokespecial 3, 3) := by decide +kernel
theorem dX5_init_4 : decode cX5_init 4 = .ok (.aload_n 0, 1) := by decide +kernel
theorem dX5_init_5 : decode cX5_init 5 = .ok (.new 9, 3) := by decide +kernel
theorem dX5_init_8 : decode cX5_init 8 = .ok (.dup, 1) := by decide +kernel
theorem dX5_init_9 : decode cX5_init 9 = .ok (.invokespecial 11, 3) := by decide +kernel
theorem dX5_init_12 : decode cX5_init 12 = .ok (.putfield 12, 3) := by decide +kernel
theorem dX5_init_15 : decode cX5_init 15 = .ok (.aload_n 0, 1) := by decide +kernel
theorem dX5_init_16 : decode cX5_init 16 = .ok (.new 18, 3) := by decide +kernel
theorem dX5_init_19 : decode cX5_init 19 = .ok (.dup, 1) := by decide +kernel
theorem dX5_init_20 : decode cX5_init 20 = .ok (.aload_n 0, 1) := by decide +kernel
theorem dX5_init_21 : decode cX5_init 21 = .ok (.getfield 12, 3) := by decide +kernel
theorem dX5_init_24 : decode cX5_init 24 = .ok (.invokespecial 20, 3) := by decide +kernel
theorem dX5_init_27 : decode cX5_init 27 = .ok (.putfield 23, 3) := by decide +kernel
theorem dX5_init_30 : decode cX5_init 30 = .ok (.aload_n 0, 1) := by decide +kernel
theorem dX5_init_31 : decode cX5_init 31 = .ok (.new 27, 3) := by decide +kernel
theorem dX5_init_34 : decode cX5_init 34 = .ok (.dup, 1) := by decide +kernel
theorem dX5_init_35 : decode cX5_init 35 = .ok (.invokespecial 29, 3) := by decide +kernel
theorem dX5_init_38 : decode cX5_init 38 = .ok (.putfield 30, 3) := by decide +kernel
theorem dX5_init_41 : decode cX5_init 41 = .ok (.aload_n 0, 1) := by decide +kernel
theorem dX5_init_42 : decode cX5_init 42 = .ok (.bipush 13, 2) := by decide +kernel
theorem dX5_init_44 : decode cX5_init 44 = .ok (.newarray .int, 2) := by decide +kernel
theorem dX5_init_46 : decode cX5_init 46 = .ok (.putfield 34, 3) := by decide +kernel
theorem dX5_init_49 : decode cX5_init 49 = .ok (.aload_n 0, 1) := by decide +kernel
theorem dX5_init_50 : decode cX5_init 50 = .ok (.bipush 13, 2) := by decide +kernel
theorem dX5_init_52 : decode cX5_init 52 = .ok (.newarray .int, 2) := by decide +kernel
theorem dX5_init_54 : decode cX5_init 54 = .ok (.putfield 38, 3) := by decide +kernel
theorem dX5_init_57 : decode cX5_init 57 = .ok (.aload_n 0, 1) := by decide +kernel
theorem dX5_init_58 : decode cX5_init 58 = .ok (.iconst 1, 1) := by decide +kernel
theorem dX5_init_59 : decode cX5_init 59 = .ok (.newarray .int, 2) := by decide +kernel
theorem dX5_init_61 : decode cX5_init 61 = .ok (.putfield 41, 3) := by decide +kernel
theorem dX5_init_64 : decode cX5_init 64 = .ok (.aload_n 0, 1) := by decide +kernel
theorem dX5_init_65 : decode cX5_init 65 = .ok (.bipush 13, 2) := by decide +kernel
theorem dX5_init_67 : decode cX5_init 67 = .ok (.newarray .int, 2) := by decide +kernel
theorem dX5_init_69 : decode cX5_init 69 = .ok (.putfield 44, 3) := by decide +kernel
theorem dX5_init_72 : decode cX5_init 72 = .ok (.aload_n 0, 1) := by decide +kernel
theorem dX5_init_73 : decode cX5_init 73 = .ok (.bipush 13, 2) := by decide +kernel
theorem dX5_init_75 : decode cX5_init 75 = .ok (.newarray .int, 2) := by decide +kernel
theorem dX5_init_77 : decode cX5_init 77 = .ok (.putfield 47, 3) := by decide +kernel
theorem dX5_init_80 : decode cX5_init 80 = .ok (.aload_n 0, 1) := by decide +kernel
theorem dX5_init_81 : decode cX5_init 81 = .ok (.iconst 1, 1) := by decide +kernel
theorem dX5_init_82 : decode cX5_init 82 = .ok (.newarray .int, 2) := by decide +kernel
theorem dX5_init_84 : decode cX5_init 84 = .ok (.putfield 50, 3) := by decide +kernel
theorem dX5_init_87 : decode cX5_init 87 = .ok (.aload_n 0, 1) := by decide +kernel
theorem dX5_init_88 : decode cX5_init 88 = .ok (.bipush 6, 2) := by decide +kernel
theorem dX5_init_90 : decode cX5_init 90 = .ok (.anewarray 53, 3) := by decide +kernel
theorem dX5_init_93 : decode cX5_init 93 = .ok (.putfield 55, 3) := by decide +kernel
theorem dX5_init_96 : decode cX5_init 96 = .ok (.return_, 1) := by decide +kernel
theorem dX5_check_0 : decode cX5_check 0 = .ok (.new 27, 3) := by decide +kernel
theorem dX5_check_3 : decode cX5_check 3 = .ok (.dup, 1) := by decide +kernel
theorem dX5_check_4 : decode cX5_check 4 = .ok (.aload_n 1, 1) := by decide +kernel
theorem dX5_check_5 : decode cX5_check 5 = .ok (.aload_n 2, 1) := by decide +kernel
theorem dX5_check_6 : decode cX5_check 6 = .ok (.invokespecial 59, 3) := by decide +kernel
theorem dX5_check_9 : decode cX5_check 9 = .ok (.astore 4, 2) := by decide +kernel
theorem dX5_check_11 : decode cX5_check 11 = .ok (.aload 4, 2) := by decide +kernel
theorem dX5_check_13 : decode cX5_check 13 = .ok (.iload_n 3, 1) := by decide +kernel
theorem dX5_check_14 : decode cX5_check 14 = .ok (.putfield 62, 3) := by decide +kernel
theorem dX5_check_17 : decode cX5_check 17 = .ok (.iload_n 3, 1) := by decide +kernel
theorem dX5_check_18 : decode cX5_check 18 = .ok (.ifCond .le 6, 3) := by decide +kernel
theorem dX5_check_21 : decode cX5_check 21 = .ok (.aload 4, 2) := by decide +kernel
theorem dX5_check_23 : decode cX5_check 23 = .ok (.areturn, 1) := by decide +kernel
theorem dX5_check_24 : decode cX5_check 24 = .ok (.aload_n 0, 1) := by decide +kernel
theorem dX5_check_25 : decode cX5_check 25 = .ok (.getfield 23, 3) := by decide +kernel
theorem dX5_check_28 : decode cX5_check 28 = .ok (.aload_n 2, 1) := by decide +kernel
theorem dX5_check_29 : decode cX5_check 29 = .ok (.iconst 0, 1) := by decide +kernel
theorem dX5_check_30 : decode cX5_check 30 = .ok (.aload_n 2, 1) := by decide +kernel
theorem dX5_check_31 : decode cX5_check 31 = .ok (.arraylength, 1) := by decide +kernel
theorem dX5_check_32 : decode cX5_check 32 = .ok (.invokevirtual 66, 3) := by decide +kernel
theorem dX5_check_35 : decode cX5_check 35 = .ok (.pop, 1) := by decide +kernel
theorem dX5_check_36 : decode cX5_check 36 = .ok (.aload_n 0, 1) := by decide +kernel
theorem dX5_check_37 : decode cX5_check 37 = .ok (.getfield 23, 3) := by decide +kernel
theorem dX5_check_40 : decode cX5_check 40 = .ok (.invokevirtual 70, 3) := by decide +kernel
theorem dX5_check_43 : decode cX5_check 43 = .ok (.istore 5, 2) := by decide +kernel
theorem dX5_check_45 : decode cX5_check 45 = .ok (.aload_n 0, 1) := by decide +kernel
theorem dX5_check_46 : decode cX5_check 46 = .ok (.getfield 23, 3) := by decide +kernel
theorem dX5_check_49 : decode cX5_check 49 = .ok (.getfield 74, 3) := by decide +kernel
theorem dX5_check_52 : decode cX5_check 52 = .ok (.bipush 6, 2) := by decide +kernel
theorem dX5_check_54 : decode cX5_check 54 = .ok (.if_icmp .le 7, 3) := by decide +kernel
theorem dX5_check_57 : decode cX5_check 57 = .ok (.iconst 1, 1) := by decide +kernel
theorem dX5_check_58 : decode cX5_check 58 = .ok (.goto 4, 3) := by decide +kernel
theorem dX5_check_61 : decode cX5_check 61 = .ok (.iconst 0, 1) := by decide +kernel
theorem dX5_check_62 : decode cX5_check 62 = .ok (.istore 6, 2) := by decide +kernel
theorem dX5_check_64 : decode cX5_check 64 = .ok (.aload 4, 2) := by decide +kernel
theorem dX5_check_66 : decode cX5_check 66 = .ok (.getfield 77, 3) := by decide +kernel
theorem dX5_check_69 : decode cX5_check 69 = .ok (.ifCond .lt 7, 3) := by decide +kernel
theorem dX5_check_72 : decode cX5_check 72 = .ok (.iconst 1, 1) := by decide +kernel
theorem dX5_check_73 : decode cX5_check 73 = .ok (.goto 4, 3) := by decide +kernel
theorem dX5_check_76 : decode cX5_check 76 = .ok (.iconst 0, 1) := by decide +kernel
theorem dX5_check_77 : decode cX5_check 77 = .ok (.istore 7, 2) := by decide +kernel
theorem dX5_check_79 : decode cX5_check 79 = .ok (.iload 5, 2) := by decide +kernel
theorem dX5_check_81 : decode cX5_check 81 = .ok (.ifCond .ne 12, 3) := by decide +kernel
theorem dX5_check_84 : decode cX5_check 84 = .ok (.aload 4, 2) := by decide +kernel
theorem dX5_check_86 : decode cX5_check 86 = .ok (.iconst 3, 1) := by decide +kernel
theorem dX5_check_87 : decode cX5_check 87 = .ok (.putfield 62, 3) := by decide +kernel
theorem dX5_check_90 : decode cX5_check 90 = .ok (.goto 107, 3) := by decide +kernel
theorem dX5_check_93 : decode cX5_check 93 = .ok (.iload 6, 2) := by decide +kernel
theorem dX5_check_95 : decode cX5_check 95 = .ok (.iload 7, 2) := by decide +kernel
theorem dX5_check_97 : decode cX5_check 97 = .ok (.if_icmp .eq 12, 3) := by decide +kernel
theorem dX5_check_100 : decode cX5_check 100 = .ok (.aload 4, 2) := by decide +kernel
theorem dX5_check_102 : decode cX5_check 102 = .ok (.iconst 4, 1) := by decide +kernel
theorem dX5_check_103 : decode cX5_check 103 = .ok (.putfield 62, 3) := by decide +kernel
theorem dX5_check_106 : decode cX5_check 106 = .ok (.goto 91, 3) := by decide +kernel
theorem dX5_check_109 : decode cX5_check 109 = .ok (.aload_n 0, 1) := by decide +kernel
theorem dX5_check_110 : decode cX5_check 110 = .ok (.getfield 23, 3) := by decide +kernel
theorem dX5_check_113 : decode cX5_check 113 = .ok (.getfield 74, 3) := by decide +kernel
theorem dX5_check_116 : decode cX5_check 116 = .ok (.iconst 4, 1) := by decide +kernel
theorem dX5_check_117 : decode cX5_check 117 = .ok (.if_icmp .gt 17, 3) := by decide +kernel
theorem dX5_check_120 : decode cX5_check 120 = .ok (.aload 4, 2) := by decide +kernel
theorem dX5_check_122 : decode cX5_check 122 = .ok (.aload_n 0, 1) := by decide +kernel
theorem dX5_check_123 : decode cX5_check 123 = .ok (.aload 4, 2) := by decide +kernel
theorem dX5_check_125 : decode cX5_check 125 = .ok (.invokevirtual 80, 3) := by decide +kernel
theorem dX5_check_128 : decode cX5_check 128 = .ok (.putfield 62, 3) := by decide +kernel
theorem dX5_check_131 : decode cX5_check 131 = .ok (.goto 66, 3) := by decide +kernel
theorem dX5_check_134 : decode cX5_check 134 = .ok (.aload_n 0, 1) := by decide +kernel
theorem dX5_check_135 : decode cX5_check 135 = .ok (.getfield 23, 3) := by decide +kernel
theorem dX5_check_138 : decode cX5_check 138 = .ok (.getfield 74, 3) := by decide +kernel
theorem dX5_check_141 : decode cX5_check 141 = .ok (.bipush 6, 2) := by decide +kernel
theorem dX5_check_143 : decode cX5_check 143 = .ok (.if_icmp .gt 17, 3) := by decide +kernel
theorem dX5_check_146 : decode cX5_check 146 = .ok (.aload 4, 2) := by decide +kernel
theorem dX5_check_148 : decode cX5_check 148 = .ok (.aload_n 0, 1) := by decide +kernel
theorem dX5_check_149 : decode cX5_check 149 = .ok (.aload 4, 2) := by decide +kernel
theorem dX5_check_151 : decode cX5_check 151 = .ok (.invokevirtual 84, 3) := by decide +kernel
theorem dX5_check_154 : decode cX5_check 154 = .ok (.putfield 62, 3) := by decide +kernel
theorem dX5_check_157 : decode cX5_check 157 = .ok (.goto 40, 3) := by decide +kernel
theorem dX5_check_160 : decode cX5_check 160 = .ok (.aload_n 0, 1) := by decide +kernel
theorem dX5_check_161 : decode cX5_check 161 = .ok (.getfield 23, 3) := by decide +kernel
theorem dX5_check_164 : decode cX5_check 164 = .ok (.getfield 74, 3) := by decide +kernel
theorem dX5_check_167 : decode cX5_check 167 = .ok (.bipush 8, 2) := by decide +kernel
theorem dX5_check_169 : decode cX5_check 169 = .ok (.if_icmp .gt 17, 3) := by decide +kernel
theorem dX5_check_172 : decode cX5_check 172 = .ok (.aload 4, 2) := by decide +kernel
theorem dX5_check_174 : decode cX5_check 174 = .ok (.aload_n 0, 1) := by decide +kernel
theorem dX5_check_175 : decode cX5_check 175 = .ok (.aload 4, 2) := by decide +kernel
theorem dX5_check_177 : decode cX5_check 177 = .ok (.invokevirtual 87, 3) := by decide +kernel
theorem dX5_check_180 : decode cX5_check 180 = .ok (.putfield 62, 3) := by decide +kernel
theorem dX5_check_183 : decode cX5_check 183 = .ok (.goto 14, 3) := by decide +kernel
theorem dX5_check_186 : decode cX5_check 186 = .ok (.aload 4, 2) := by decide +kernel
theorem dX5_check_188 : decode cX5_check 188 = .ok (.aload_n 0, 1) := by decide +kernel
theorem dX5_check_189 : decode cX5_check 189 = .ok (.aload 4, 2) := by decide +kernel
theorem dX5_check_191 : decode cX5_check 191 = .ok (.invokevirtual 90, 3) := by decide +kernel
theorem dX5_check_194 : decode cX5_check 194 = .ok (.putfield 62, 3) := by decide +kernel
theorem dX5_check_197 : decode cX5_check 197 = .ok (.aload 4, 2) := by decide +kernel
theorem dX5_check_199 : decode cX5_check 199 = .ok (.areturn, 1) := by decide +kernel
theorem dX10_init_0 : decode cX10_init 0 = .ok (.aload_n 0, 1) := by decide +kernel
theorem dX10_init_1 : decode cX10_init 1 = .ok (.invokespecial 3, 3) := by decide +kernel
theorem dX10_init_4 : decode cX10_init 4 = .ok (.aload_n 0, 1) := by decide +kernel
theorem dX10_init_5 : decode cX10_init 5 = .ok (.sipush 1500, 3) := by decide +kernel
theorem dX10_init_8 : decode cX10_init 8 = .ok (.newarray .int, 2) := by decide +kernel
theorem dX10_init_10 : decode cX10_init 10 = .ok (.putfield 9, 3) := by decide +kernel
theorem dX10_init_13 : decode cX10_init 13 = .ok (.aload_n 0, 1) := by decide +kernel
theorem dX10_init_14 : decode cX10_init 14 = .ok (.sipush 1500, 3) := by decide +kernel
theorem dX10_init_17 : decode cX10_init 17 = .ok (.newarray .int, 2) := by decide +kernel
theorem dX10_init_19 : decode cX10_init 19 = .ok (.putfield 15, 3) := by decide +kernel
theorem dX10_init_22 : decode cX10_init 22 = .ok (.aload_n 0, 1) := by decide +kernel
theorem dX10_init_23 : decode cX10_init 23 = .ok (.iconst 3, 1) := by decide +kernel
theorem dX10_init_24 : decode cX10_init 24 = .ok (.newarray .int, 2) := by decide +kernel
theorem dX10_init_26 : decode cX10_init 26 = .ok (.putfield 18, 3) := by decide +kernel
theorem dX10_init_29 : decode cX10_init 29 = .ok (.aload_n 0, 1) := by decide +kernel
theorem dX10_init_30 : decode cX10_init 30 = .ok (.sipush 3000, 3) := by decide +kernel
theorem dX10_init_33 : decode cX10_init 33 = .ok (.newarray .int, 2) := by decide +kernel
theorem dX10_init_35 : decode cX10_init 35 = .ok (.putfield 21, 3) := by decide +kernel
theorem dX10_init_38 : decode cX10_init 38 = .ok (.aload_n 0, 1) := by decide +kernel
theorem dX10_init_39 : decode cX10_init 39 = .ok (.aload_n 1, 1) := by decide +kernel
theorem dX10_init_40 : decode cX10_init 40 = .ok (.putfield 24, 3) := by decide +kernel
theorem dX10_init_43 : decode cX10_init 43 = .ok (.return_, 1) := by decide +kernel
def EX10_init : List (Nat × Nat) := []
def EX1_init : List (Nat × Nat) := []
def EX5_init : List (Nat × Nat) := [(8, 3), (101, 0), (102, 0), (132, 0), (133, 0)]
def EX5_check : List (Nat × Nat) := [(7, 5), (7, 10), (8, 3), (11, 2), (11, 3), (11, 4), (11, 5), (11, 6), (11, 7), (11, 8), (12, 3), (12, 4), (12, 5), (12, 7), (12, 8), (12, 10), (101, 0), (102, 0), (132, 0), (133, 0), (211, 0), (280, 0), (290, 0), (291, 0), (292, 0), (293, 0)]
set_option maxHeartbeats 4000000 in
set_option maxRecDepth 20000 in
theorem uX10_init (l : Launch) (dC : Nat → ClassId) (dI : Nat → Nat → Nat) (ca : Nat → ClassId) (base : Nat) (B : jF) (hB : jBok B) (hAp : jAp (dC, dI)) (hB8 : ∀ n G a H, B 8 n G a H ↔ jOb (dC, dI) 8 4 (F8 n G) a H) (hB12 : ∀ n G a H, B 12 n G a H ↔ jOb (dC, dI) 12 11 (F12b n G) a H) (hB101 : ∀ n G a H, B 101 n G a H ↔ jAr (dC, dI) (ca 1) (fun j z => True) n a H) (hB280 : ∀ n G a H, B 280 n G a H ↔ jAr (dC, dI) (ca 1) (fun j z => -1 ≤ z.toInt) n a H) (hB292 : ∀ n G a H, B 292 n G a H ↔ jAr (dC, dI) (ca 1) (fun j z => 0 ≤ z.toInt ∧ z.toInt ≤ 8191) n a H) (hB293 : ∀ n G a H, B 293 n G a H ↔ jAr (dC, dI) (ca 1) (fun j z => -1 ≤ z.toInt ∧ z.toInt ≤ 8191) n a H) (G0 : jT) (H0 : Heap) (r0 : Nat) (r1 : Nat) (LC LS : Nat) : Met l yX10_init (jw yX10_init cX10_init 2 none) ({ frames := 1, cells := LC - H0.size, slots := LS - jTot H0, locals := 31 }) (va_Pc [.ref r0, .ref r1] (fun U => U.heap = H0 ∧ jX B base G0 [] H0 ∧ jG dC dI ca base U ∧ G0 r1 = some (8, 0) ∧ va_at (dC, dI) vwCl (r0, .inr (12, [.null, .null, .null, .int 0, .int 0, .int 0, .null, .int 0, .int 0, .null, .int 0])) H0 ∧ (∀ t, G0 r0 ≠ some t) ∧ base ≤ r0 ∧ jP (dC, dI) G0 H0 [] ∧ H0.size + 4 ≤ LC ∧ jTot H0 + 6003 ≤ LS ∧ True)) (va_Qv (S := jT) (fun u => True) (fun u t => jRa (dC, dI) B base G0 u EX10_init H0 (4) (6003) [] t.heap ∧ (jNk [0, 1, 2, 3, 4, 5, 6, 7, 8, 9, 10, 11, 13, 14, 15, 16]) G0 u ∧ u r0 = some (12, 0) ∧ jKx r0 G0 u H0 t.heap) (jA base)) (LC - H0.size) (LS - jTot H0) (jA base) := by
  refine Met.ofW (cc := cX10_init) (maxL := 2) (ret := none) (by decide) rfl ?_
  intro p e s m args below meth c s₁ Bd hml hv
  obtain ⟨rfl, hH0, hX, hG, hg_r1, hraw0, hnr0, hbr0, hP0, hLC0, hLS0, hp0⟩ := hv
  have hK := hG.1
  have hx := Bd.exec
  have hb := Bd.bytes
  have hr := Bd.returns
  have hts := atoms_spec (ws := (jw yX10_init cX10_init 2 none)) Bd.pre
  have htw : ∀ w ∈ jWl, w.before _ s = true := fun w h => hts w (List.mem_cons_of_mem _ h)
  have hown : s.vm.findClass RX10 = some m.cls := findClass_of_methodNamed Bd.named
  have hlocks := Bd.notSynchronized
  obtain ⟨Q, hQ⟩ : ∃ Q, Q = MQ below (va_Qv (S := jT) (fun u => True) (fun u t => jRa (dC, dI) B base G0 u EX10_init H0 (4) (6003) [] t.heap ∧ (jNk [0, 1, 2, 3, 4, 5, 6, 7, 8, 9, 10, 11, 13, 14, 15, 16]) G0 u ∧ u r0 = some (12, 0) ∧ jKx r0 G0 u H0 t.heap) (jA base)) ([.ref r0, .ref r1] : List Value).toArray s (LC - H0.size) (LS - jTot H0) (jA base) := ⟨_, rfl⟩
  rw [← hQ]
  have hl := lv_entry ([.ref r0, .ref r1]) (n := 2) (Nat.le_of_ble_eq_true rfl)
  rw [lg_entry_eq]
  generalize (lg_sl ([.ref r0, .ref r1]) ++ List.replicate (2 - (lg_sl ([.ref r0, .ref r1])).length) Slot.unset).toArray = ls at hl ⊢
  have hl : lv_has ls 2 [(0, .ref r0), (1, .ref r1)] := hl
  generalize hR : (headSpec (jw yX10_init cX10_init 2 none) ({ frames := 1, cells := LC - H0.size, slots := LS - jTot H0, locals := 31 })).room = R
  subst hH0
  have hh : jSt (dC, dI) B base G0 G0 EX10_init s.heap 0 0 [] [] [] s.heap [] := jSt.start hX hP0 jMc.nil jIs.nil
  clear hX hP0
  have hk0 : (0 : Int32).toInt = 0 := by decide
  have hk1 : (1 : Int32).toInt = 1 := by decide
  have hk3 : (3 : Int32).toInt = 3 := by decide
  have hk1500 : (1500 : Int32).toInt = 1500 := by decide
  have hk3000 : (3000 : Int32).toInt = 3000 := by decide
  have hly_12_0 := htw (u_lay RX10 TX10 0) (jWc_wsX100 _ (u_in_lay (by decide)))
  have hly_12_1 := htw (u_lay RX10 TX10 1) (jWc_wsX100 _ (u_in_lay (by decide)))
  have hly_12_2 := htw (u_lay RX10 TX10 2) (jWc_wsX100 _ (u_in_lay (by decide)))
  have hly_12_6 := htw (u_lay RX10 TX10 6) (jWc_wsX100 _ (u_in_lay (by decide)))
  have hly_12_9 := htw (u_lay RX10 TX10 9) (jWc_wsX100 _ (u_in_lay (by decide)))
  have hlk_9 := (htw (.fieldLink RX10 9 "ProofServer$Syntax" "kinds" "[I") (jWr_8 _ (List.mem_of_getElem? (i := 8) rfl)))
  have hlk_15 := (htw (.fieldLink RX10 15 "ProofServer$Syntax" "values" "[I") (jWr_8 _ (List.mem_of_getElem? (i := 9) rfl)))
  have hlk_18 := (htw (.fieldLink RX10 18 "ProofServer$Syntax" "told" "[I") (jWr_8 _ (List.mem_of_getElem? (i := 10) rfl)))
  have hlk_21 := (htw (.fieldLink RX10 21 "ProofServer$Syntax" "nodes" "[I") (jWr_8 _ (List.mem_of_getElem? (i := 11) rfl)))
  have hlk_24 := (htw (.fieldLink RX10 24 "ProofServer$Syntax" "names" "LProofServer$Names;") (jWr_8 _ (List.mem_of_getElem? (i := 12) rfl)))
  have hbs : base ≤ s.heap.size := Nat.le_of_lt (Nat.lt_of_le_of_lt hbr0 hraw0.lt)
  have hRc : R.cells = LC - s.heap.size := by rw [← hR]; rfl
  have hRs : R.slots = LS - jTot s.heap := by rw [← hR]; rfl
  have hin2 : meth.name = "<init>" := (name_of_methodNamed Bd.named Bd.method).1
  have hkp : jKx r0 G0 G0 s.heap s.heap := jKx.rf
  refine lv_aload_n hx hb dX10_init_0 rfl (lv_at hl 0 rfl) ?_
  refine W.objInit hx hb hown (htw (.methodLink RX10 3 objectInit) (jWr_8 _ (List.mem_of_getElem? (i := 7) rfl))) (htw (.instanceMethod objectInit) (jWr_1 _ (List.mem_of_getElem? (i := 10) rfl))) (htw (.code objectInit ⟨#[0xb1]⟩ 1 none) (jWr_1 _ (List.mem_of_getElem? (i := 11) rfl))) rfl (by rw [hml]; exact hl.1) rfl dX10_init_1 (by rw [← hR]; exact Nat.le_of_ble_eq_true rfl) (by rw [← hR]; exact Nat.le_of_ble_eq_true rfl) ?_
  refine W.eq (g2 := F0 m 4 ls []) rfl ?_
  refine lv_aload_n hx hb dX10_init_4 rfl (lv_at hl 0 rfl) ?_
  refine lv_sipush (v := 1500) hx hb dX10_init_5 (by decide) ?_
  have hsz_1 := hh.2.2.2.2.2.1
  have htt_1 := hh.2.2.2.2.2.2.1
  refine j7_newiK hx hb hK hh hB (atype := .int) (ty := .int) (htw (.arrayClass .int) (jWr_3 _ (List.mem_of_getElem? (i := 20) rfl))) rfl rfl (fun _ h => h) hB101 1 rfl (by decide) (by decide) hbs (x := 1500) (by decide) (by omega) (fun j => by first | trivial | decide | rfl | exact Or.inl rfl | (refine ⟨?_, ?_⟩ <;> decide)) (by rw [hRc]; omega) (by rw [hRs]; omega) dX10_init_8 (fun H_1 hfr_1 hh_1 => ?_)
  have hh_1 : jSt (dC, dI) B base G0 (va_up G0 s.heap.size (some (101, 1500))) EX10_init s.heap (0 + 1) (0 + 1500) [] [] [] H_1 [] := hh_1
  have hN_1 : (jNk [0, 1, 2, 3, 4, 5, 6, 7, 8, 9, 10, 11, 13, 14, 15, 16]) G0 (va_up G0 s.heap.size (some (101, 1500))) := jNk.new (by decide)
  have hgn_1 : (va_up G0 s.heap.size (some (101, 1500))) s.heap.size = some (101, 1500) := jUp_self
  have hle_1 : jLe G0 (va_up G0 s.heap.size (some (101, 1500))) := jLe.new hh.2.1.fresh
  have hke_1 : jKe G0 (va_up G0 s.heap.size (some (101, 1500))) s.heap H_1 := jKe.new hfr_1
  have hsy_1 : s.heap.size ≤ s.heap.size := hh.1.1
  generalize (va_up G0 s.heap.size (some (101, 1500))) = G_1 at hN_1 hgn_1 hle_1 hke_1 hh_1
  clear hh
  have hNn_1 : (jNk [0, 1, 2, 3, 4, 5, 6, 7, 8, 9, 10, 11, 13, 14, 15, 16]) G0 G_1 := (jNk.rf).tr hN_1
  have hg_2 := hle_1 _ _ hg_r1
  have hkp_3 := hkp.tr hke_1
  have hraw_4n := hke_1.nr hraw0.lt hnr0
  have hraw_4 := hraw0.kept (hke_1.1 _ hraw0.lt)
  refine j7_putRF hx hb hown hK hh_1 hB hAp hraw_4 hraw_4n hbr0 (C := RX10) (T := TX10) (N := 11) rfl (i := 1) (by decide) (Nat.le_of_ble_eq_true rfl) hly_12_1 rfl hin2 rfl hlk_9 (ty := (.array .int)) (v := .ref s.heap.size) (by decide +kernel) rfl rfl dX10_init_10 (fun H_5 locs_5 hraw_5 hr_5 hh_5 => ?_)
  have hraw_5 : va_at (dC, dI) vwCl (r0, .inr (12, [.null, .ref s.heap.size, .null, .int 0, .int 0, .int 0, .null, .int 0, .int 0, .null, .int 0])) H_5 := hraw_5
  have hkp_6 := hkp_3.put hr_5
  clear hh_1
  refine lv_aload_n hx hb dX10_init_13 rfl (lv_at hl 0 rfl) ?_
  refine lv_sipush (v := 1500) hx hb dX10_init_14 (by decide) ?_
  have hsz_7 := hh_5.2.2.2.2.2.1
  have htt_7 := hh_5.2.2.2.2.2.2.1
  refine j7_newiK hx hb hK hh_5 hB (atype := .int) (ty := .int) (htw (.arrayClass .int) (jWr_3 _ (List.mem_of_getElem? (i := 20) rfl))) rfl rfl (fun _ h => h) hB293 1 rfl (by decide) (by decide) hbs (x := 1500) (by decide) (by omega) (fun j => by first | trivial | decide | rfl | exact Or.inl rfl | (refine ⟨?_, ?_⟩ <;> decide)) (by rw [hRc]; omega) (by rw [hRs]; omega) dX10_init_17 (fun H_7 hfr_7 hh_7 => ?_)
  have hh_7 : jSt (dC, dI) B base G0 (va_up G_1 H_5.size (some (293, 1500))) EX10_init s.heap ((0 + 1) + 1) ((0 + 1500) + 1500) [] [] [] H_7 locs_5 := hh_7
  have hN_7 : (jNk [0, 1, 2, 3, 4, 5, 6, 7, 8, 9, 10, 11, 13, 14, 15, 16]) G_1 (va_up G_1 H_5.size (some (293, 1500))) := jNk.new (by decide)
  have hgn_7 : (va_up G_1 H_5.size (some (293, 1500))) H_5.size = some (293, 1500) := jUp_self
  have hle_7 : jLe G_1 (va_up G_1 H_5.size (some (293, 1500))) := jLe.new hh_5.2.1.fresh
  have hke_7 : jKe G_1 (va_up G_1 H_5.size (some (293, 1500))) H_5 H_7 := jKe.new hfr_7
  have hsy_7 : s.heap.size ≤ H_5.size := hh_5.1.1
  generalize (va_up G_1 H_5.size (some (293, 1500))) = G_7 at hN_7 hgn_7 hle_7 hke_7 hh_7
  clear hh_5
  have hNn_7 : (jNk [0, 1, 2, 3, 4, 5, 6, 7, 8, 9, 10, 11, 13, 14, 15, 16]) G0 G_7 := (hNn_1).tr hN_7
  have hg_8 := hle_7 _ _ hg_2
  have hkp_9 := hkp_6.tr hke_7
  have hraw_10n := hke_7.nr hraw_5.lt hraw_4n
  have hraw_10 := hraw_5.kept (hke_7.1 _ hraw_5.lt)
  refine j7_putRF hx hb hown hK hh_7 hB hAp hraw_10 hraw_10n hbr0 (C := RX10) (T := TX10) (N := 11) rfl (i := 2) (by decide) (Nat.le_of_ble_eq_true rfl) hly_12_2 rfl hin2 rfl hlk_15 (ty := (.array .int)) (v := .ref H_5.size) (by decide +kernel) rfl rfl dX10_init_19 (fun H_11 locs_11 hraw_11 hr_11 hh_11 => ?_)
  have hraw_11 : va_at (dC, dI) vwCl (r0, .inr (12, [.null, .ref s.heap.size, .ref H_5.size, .int 0, .int 0, .int 0, .null, .int 0, .int 0, .null, .int 0])) H_11 := hraw_11
  have hkp_12 := hkp_9.put hr_11
  clear hh_7
  refine lv_aload_n hx hb dX10_init_22 rfl (lv_at hl 0 rfl) ?_
  refine lv_iconst (v := 3) hx hb dX10_init_23 (by decide) ?_
  have hsz_13 := hh_11.2.2.2.2.2.1
  have htt_13 := hh_11.2.2.2.2.2.2.1
  refine j7_newiK hx hb hK hh_11 hB (atype := .int) (ty := .int) (htw (.arrayClass .int) (jWr_3 _ (List.mem_of_getElem? (i := 20) rfl))) rfl rfl (fun _ h => h) hB292 1 rfl (by decide) (by decide) hbs (x := 3) (by decide) (by omega) (fun j => by first | trivial | decide | rfl | exact Or.inl rfl | (refine ⟨?_, ?_⟩ <;> decide)) (by rw [hRc]; omega) (by rw [hRs]; omega) dX10_init_24 (fun H_13 hfr_13 hh_13 => ?_)
  have hh_13 : jSt (dC, dI) B base G0 (va_up G_7 H_11.size (some (292, 3))) EX10_init s.heap (((0 + 1) + 1) + 1) (((0 + 1500) + 1500) + 3) [] [] [] H_13 locs_11 := hh_13
  have hN_13 : (jNk [0, 1, 2, 3, 4, 5, 6, 7, 8, 9, 10, 11, 13, 14, 15, 16]) G_7 (va_up G_7 H_11.size (some (292, 3))) := jNk.new (by decide)
  have hgn_13 : (va_up G_7 H_11.size (some (292, 3))) H_11.size = some (292, 3) := jUp_self
  have hle_13 : jLe G_7 (va_up G_7 H_11.size (some (292, 3))) := jLe.new hh_11.2.1.fresh
  have hke_13 : jKe G_7 (va_up G_7 H_11.size (some (292, 3))) H_11 H_13 := jKe.new hfr_13
  have hsy_13 : s.heap.size ≤ H_11.size := hh_11.1.1
  generalize (va_up G_7 H_11.size (some (292, 3))) = G_13 at hN_13 hgn_13 hle_13 hke_13 hh_13
  clear hh_11
  have hNn_13 : (jNk [0, 1, 2, 3, 4, 5, 6, 7, 8, 9, 10, 11, 13, 14, 15, 16]) G0 G_13 := (hNn_7).tr hN_13
  have hg_14 := hle_13 _ _ hg_8
  have hkp_15 := hkp_12.tr hke_13
  have hraw_16n := hke_13.nr hraw_11.lt hraw_10n
  have hraw_16 := hraw_11.kept (hke_13.1 _ hraw_11.lt)
  refine j7_putRF hx hb hown hK hh_13 hB hAp hraw_16 hraw_16n hbr0 (C := RX10) (T := TX10) (N := 11) rfl (i := 6) (by decide) (Nat.le_of_ble_eq_true rfl) hly_12_6 rfl hin2 rfl hlk_18 (ty := (.array .int)) (v := .ref H_11.size) (by decide +kernel) rfl rfl dX10_init_26 (fun H_17 locs_17 hraw_17 hr_17 hh_17 => ?_)
  have hraw_17 : va_at (dC, dI) vwCl (r0, .inr (12, [.null, .ref s.heap.size, .ref H_5.size, .int 0, .int 0, .int 0, .ref H_11.size, .int 0, .int 0, .null, .int 0])) H_17 := hraw_17
  have hkp_18 := hkp_15.put hr_17
  clear hh_13
  refine lv_aload_n hx hb dX10_init_29 rfl (lv_at hl 0 rfl) ?_
  refine lv_sipush (v := 3000) hx hb dX10_init_30 (by decide) ?_
  have hsz_19 := hh_17.2.2.2.2.2.1
  have htt_19 := hh_17.2.2.2.2.2.2.1
  refine j7_newiK hx hb hK hh_17 hB (atype := .int) (ty := .int) (htw (.arrayClass .int) (jWr_3 _ (List.mem_of_getElem? (i := 20) rfl))) rfl rfl (fun _ h => h) hB280 1 rfl (by decide) (by decide) hbs (x := 3000) (by decide) (by omega) (fun j => by first | trivial | decide | rfl | exact Or.inl rfl | (refine ⟨?_, ?_⟩ <;> decide)) (by rw [hRc]; omega) (by rw [hRs]; omega) dX10_init_33 (fun H_19 hfr_19 hh_19 => ?_)
  have hh_19 : jSt (dC, dI) B base G0 (va_up G_13 H_17.size (some (280, 3000))) EX10_init s.heap ((((0 + 1) + 1) + 1) + 1) ((((0 + 1500) + 1500) + 3) + 3000) [] [] [] H_19 locs_17 := hh_19
  have hN_19 : (jNk [0, 1, 2, 3, 4, 5, 6, 7, 8, 9, 10, 11, 13, 14, 15, 16]) G_13 (va_up G_13 H_17.size (some (280, 3000))) := jNk.new (by decide)
  have hgn_19 : (va_up G_13 H_17.size (some (280, 3000))) H_17.size = some (280, 3000) := jUp_self
  have hle_19 : jLe G_13 (va_up G_13 H_17.size (some (280, 3000))) := jLe.new hh_17.2.1.fresh
  have hke_19 : jKe G_13 (va_up G_13 H_17.size (some (280, 3000))) H_17 H_19 := jKe.new hfr_19
  have hsy_19 : s.heap.size ≤ H_17.size := hh_17.1.1
  generalize (va_up G_13 H_17.size (some (280, 3000))) = G_19 at hN_19 hgn_19 hle_19 hke_19 hh_19
  clear hh_17
  have hNn_19 : (jNk [0, 1, 2, 3, 4, 5, 6, 7, 8, 9, 10, 11, 13, 14, 15, 16]) G0 G_19 := (hNn_13).tr hN_19
  have hg_20 := hle_19 _ _ hg_14
  have hkp_21 := hkp_18.tr hke_19
  have hraw_22n := hke_19.nr hraw_17.lt hraw_16n
  have hraw_22 := hraw_17.kept (hke_19.1 _ hraw_17.lt)
  refine j7_putRF hx hb hown hK hh_19 hB hAp hraw_22 hraw_22n hbr0 (C := RX10) (T := TX10) (N := 11) rfl (i := 9) (by decide) (Nat.le_of_ble_eq_true rfl) hly_12_9 rfl hin2 rfl hlk_21 (ty := (.array .int)) (v := .ref H_17.size) (by decide +kernel) rfl rfl dX10_init_35 (fun H_23 locs_23 hraw_23 hr_23 hh_23 => ?_)
  have hraw_23 : va_at (dC, dI) vwCl (r0, .inr (12, [.null, .ref s.heap.size, .ref H_5.size, .int 0, .int 0, .int 0, .ref H_11.size, .int 0, .int 0, .ref H_17.size, .int 0])) H_23 := hraw_23
  have hkp_24 := hkp_21.put hr_23
  clear hh_19
  refine lv_aload_n hx hb dX10_init_38 rfl (lv_at hl 0 rfl) ?_
  refine lv_aload_n hx hb dX10_init_39 rfl (lv_at hl 1 rfl) ?_
  refine j7_putRF hx hb hown hK hh_23 hB hAp hraw_23 hraw_22n hbr0 (C := RX10) (T := TX10) (N := 11) rfl (i := 0) (by decide) (Nat.le_of_ble_eq_true rfl) hly_12_0 rfl hin2 rfl hlk_24 (ty := (.object "ProofServer$Names")) (v := .ref r1) (by decide +kernel) rfl rfl dX10_init_40 (fun H_25 locs_25 hraw_25 hr_25 hh_25 => ?_)
  have hraw_25 : va_at (dC, dI) vwCl (r0, .inr (12, [.ref r1, .ref s.heap.size, .ref H_5.size, .int 0, .int 0, .int 0, .ref H_11.size, .int 0, .int 0, .ref H_17.size, .int 0])) H_25 := hraw_25
  have hkp_26 := hkp_24.put hr_25
  clear hh_23
  have hsz_27 := hh_25.2.2.2.2.2.1
  have htt_27 := hh_25.2.2.2.2.2.2.1
  refine W.room (fun hrc_27 hrs_27 => ?_)
  refine W.widen (k := LC - s.heap.size) (n := LS - jTot s.heap) (by omega) (by omega) ?_
  rw [hQ]
  have hle_28 : jLe G_19 (va_up G_19 r0 (some (12, 0))) := jLe.typ hraw_22n
  have hg_29 := hle_28 _ _ hg_20
  have hg_30 := (jLe.rf).tr hle_28 _ _ hg_20
  have hg_31 := (((hle_7).tr hle_13).tr hle_19).tr hle_28 _ _ hgn_1
  have hg_32 := ((hle_13).tr hle_19).tr hle_28 _ _ hgn_7
  have hg_33 := (hle_19).tr hle_28 _ _ hgn_13
  have hg_34 := (jLe.rf).tr hle_28 _ _ hgn_19
  have hfa_28 : jRf (va_up G_19 r0 (some (12, 0))) 8 0 (.ref r1) ∧ jRf (va_up G_19 r0 (some (12, 0))) 101 1500 (.ref s.heap.size) ∧ jRf (va_up G_19 r0 (some (12, 0))) 293 1500 (.ref H_5.size) ∧ jI 0 1500 (.int 0) ∧ jI 0 1503 (.int 0) ∧ jIa (.int 0) ∧ jRf (va_up G_19 r0 (some (12, 0))) 292 3 (.ref H_11.size) ∧ jI 0 3 (.int 0) ∧ jIa (.int 0) ∧ jRf (va_up G_19 r0 (some (12, 0))) 280 3000 (.ref H_17.size) ∧ jI 0 3000 (.int 0) ∧ True := ⟨⟨_, rfl, hg_30⟩, ⟨_, rfl, hg_31⟩, ⟨_, rfl, hg_32⟩, ⟨_, rfl, by omega, by omega⟩, ⟨_, rfl, by omega, by omega⟩, ⟨_, rfl⟩, ⟨_, rfl, hg_33⟩, ⟨_, rfl, by omega, by omega⟩, ⟨_, rfl⟩, ⟨_, rfl, hg_34⟩, ⟨_, rfl, by omega, by omega⟩, trivial⟩
  have hh_28 := hh_25.typ (k := 12) (n := 0) hB hraw_22n hbr0 hraw_25.lt (jOb.of (C := RX10) (T := TX10) (N := 11) (F := F12b) hB12 rfl hraw_25 (show jFx (F12b 0 (va_up G_19 r0 (some (12, 0)))) [.ref r1, .ref s.heap.size, .ref H_5.size, .int 0, .int 0, .int 0, .ref H_11.size, .int 0, .int 0, .ref H_17.size, .int 0] from hfa_28))
  have hgn_28 : (va_up G_19 r0 (some (12, 0))) r0 = some (12, 0) := jUp_self
  have hN_28 : (jNk [0, 1, 2, 3, 4, 5, 6, 7, 8, 9, 10, 11, 13, 14, 15, 16]) G_19 (va_up G_19 r0 (some (12, 0))) := jNk.new (by decide)
  have hNn_28 : (jNk [0, 1, 2, 3, 4, 5, 6, 7, 8, 9, 10, 11, 13, 14, 15, 16]) G0 (va_up G_19 r0 (some (12, 0))) := (hNn_19).tr hN_28
  have hkp_35 := hkp_26.typ (t := some (12, 0))
  exact W.vret hx hb hr (fun t ht hW => ⟨⟨(va_up G_19 r0 (some (12, 0))), rfl, trivial, ⟨hh_28.ra (by first | omega | (simp only; omega)) (by first | omega | (simp only; omega)) (M1 := []) [] rfl ht, hNn_28, hgn_28, by rw [ht]; exact hkp_35⟩⟩, by rw [ht]; try exact hh_28.1.1, fun q h9 hq => by rw [ht]; try exact hh_28.1.2.1 q h9 hq⟩) hh_28.1.2.2 dX10_init_43
set_option maxHeartbeats 4000000 in
set_option maxRecDepth 20000 in
theorem uX1_init (l : Launch) (dC : Nat → ClassId) (dI : Nat → Nat → Nat) (ca : Nat → ClassId) (base : Nat) (B : jF) (hB : jBok B) (hAp : jAp (dC, dI)) (hB3 : ∀ n G a H, B 3 n G a H ↔ jOb (dC, dI) 3 17 (F3 n G) a H) (hB11 : ∀ n G a H, B 11 n G a H ↔ jOb (dC, dI) 11 9 (F11 n G) a H) (hB101 : ∀ n G a H, B 101 n G a H ↔ jAr (dC, dI) (ca 1) (fun j z => True) n a H) (hB171 : ∀ n G a H, B 171 n G a H ↔ jAr (dC, dI) (ca 1) (fun j z => 0 ≤ z.toInt ∧ z.toInt ≤ 1500) n a H) (hB172 : ∀ n G a H, B 172 n G a H ↔ jAr (dC, dI) (ca 1) (fun j z => 0 ≤ z.toInt ∧ z.toInt ≤ 1500) n a H) (hB210 : ∀ n G a H, B 210 n G a H ↔ jAq (dC, dI) (ca 6) (jQn 11 0) n G a H) (G0 : jT) (H0 : Heap) (r0 : Nat) (kn : Nat) (LC LS : Nat) : Met l yX1_init (jw yX1_init cX1_init 1 none) ({ frames := 1, cells := LC - H0.size, slots := LS - jTot H0, locals := 31 }) (va_Pc [.ref r0] (fun U => U.heap = H0 ∧ jX B base G0 [] H0 ∧ jG dC dI ca base U ∧ jK2 dC dI ca U ∧ jK6 U ∧ va_at (dC, dI) vwCl (r0, .inr (3, [.null, .int 0, .null, .int 0, .int 0, .null, .null, .null, .null, .null, .int 0, .null, .null, .int 0, .int 0, .int 0, .int 0])) H0 ∧ (∀ t, G0 r0 ≠ some t) ∧ base ≤ r0 ∧ jP (dC, dI) G0 H0 [] ∧ H0.size + 7 ≤ LC ∧ jTot H0 + 1700 ≤ LS ∧ True)) (va_Qv (S := jT) (fun u => True) (fun u t => jRa (dC, dI) B base G0 u EX1_init H0 (7) (1700) [] t.heap ∧ (jNk [0, 1, 2, 4, 5, 6, 7, 8, 9, 10, 11, 12, 13, 14, 15, 16]) G0 u ∧ u r0 = some (3, kn) ∧ jKx r0 G0 u H0 t.heap) (jA base)) (LC - H0.size) (LS - jTot H0) (jA base) := by
  refine Met.ofW (cc := cX1_init) (maxL := 1) (ret := none) (by decide) rfl ?_
  intro p e s m args below meth c s₁ Bd hml hv
  obtain ⟨rfl, hH0, hX, hG, hK2, hK6, hraw0, hnr0, hbr0, hP0, hLC0, hLS0, hp0⟩ := hv
  have hK := hG.1
  have hx := Bd.exec
  have hb := Bd.bytes
  have hr := Bd.returns
  have hts := atoms_spec (ws := (jw yX1_init cX1_init 1 none)) Bd.pre
  have htw : ∀ w ∈ jWl, w.before _ s = true := fun w h => hts w (List.mem_cons_of_mem _ h)
  have hown : s.vm.findClass RX1 = some m.cls := findClass_of_methodNamed Bd.named
  have hlocks := Bd.notSynchronized
  obtain ⟨Q, hQ⟩ : ∃ Q, Q = MQ below (va_Qv (S := jT) (fun u => True) (fun u t => jRa (dC, dI) B base G0 u EX1_init H0 (7) (1700) [] t.heap ∧ (jNk [0, 1, 2, 4, 5, 6, 7, 8, 9, 10, 11, 12, 13, 14, 15, 16]) G0 u ∧ u r0 = some (3, kn) ∧ jKx r0 G0 u H0 t.heap) (jA base)) ([.ref r0] : List Value).toArray s (LC - H0.size) (LS - jTot H0) (jA base) := ⟨_, rfl⟩
  rw [← hQ]
  have hl := lv_entry ([.ref r0]) (n := 1) (Nat.le_of_ble_eq_true rfl)
  rw [lg_entry_eq]
  generalize (lg_sl ([.ref r0]) ++ List.replicate (1 - (lg_sl ([.ref r0])).length) Slot.unset).toArray = ls at hl ⊢
  have hl : lv_has ls 1 [(0, .ref r0)] := hl
  generalize hR : (headSpec (jw yX1_init cX1_init 1 none) ({ frames := 1, cells := LC - H0.size, slots := LS - jTot H0, locals := 31 })).room = R
  subst hH0
  have hh : jSt (dC, dI) B base G0 G0 EX1_init s.heap 0 0 [] [] [] s.heap [] := jSt.start hX hP0 jMc.nil jIs.nil
  clear hX hP0
  have hk0 : (0 : Int32).toInt = 0 := by decide
  have hk1 : (1 : Int32).toInt = 1 := by decide
  have hk40 : (40 : Int32).toInt = 40 := by decide
  have hk1500 : (1500 : Int32).toInt = 1500 := by decide
  have hly_3_0 := htw (u_lay RX1 TX1 0) (jWc_wsX10 _ (u_in_lay (by decide)))
  have hly_3_2 := htw (u_lay RX1 TX1 2) (jWc_wsX10 _ (u_in_lay (by decide)))
  have hly_3_5 := htw (u_lay RX1 TX1 5) (jWc_wsX10 _ (u_in_lay (by decide)))
  have hly_3_6 := htw (u_lay RX1 TX1 6) (jWc_wsX10 _ (u_in_lay (by decide)))
  have hly_3_7 := htw (u_lay RX1 TX1 7) (jWc_wsX10 _ (u_in_lay (by decide)))
  have hly_3_8 := htw (u_lay RX1 TX1 8) (jWc_wsX10 _ (u_in_lay (by decide)))
  have hly_3_9 := htw (u_lay RX1 TX1 9) (jWc_wsX10 _ (u_in_lay (by decide)))
  have hlk_9 := (htw (.fieldLink RX1 9 "ProofServer$Document" "uri" "[I") (jWr_10 _ (List.mem_of_getElem? (i := 5) rfl)))
  have hlk_15 := (htw (.fieldLink RX1 15 "ProofServer$Document" "text" "[I") (jWr_10 _ (List.mem_of_getElem? (i := 6) rfl)))
  have hlk_18 := (htw (.fieldLink RX1 18 "ProofServer$Document" "starts" "[I") (jWr_10 _ (List.mem_of_getElem? (i := 7) rfl)))
  have hlk_21 := (htw (.fieldLink RX1 21 "ProofServer$Document" "ends" "[I") (jWr_10 _ (List.mem_of_getElem? (i := 8) rfl)))
  have hlk_24 := (htw (.fieldLink RX1 24 "ProofServer$Document" "costs" "[I") (jWr_10 _ (List.mem_of_getElem? (i := 9) rfl)))
  have hlk_27 := (htw (.fieldLink RX1 27 "ProofServer$Document" "early" "[I") (jWr_10 _ (List.mem_of_getElem? (i := 10) rfl)))
  have hlk_32 := (htw (.fieldLink RX1 32 "ProofServer$Document" "behind" "[LProofServer$State;") (jWr_10 _ (List.mem_of_getElem? (i := 12) rfl)))
  have hbs : base ≤ s.heap.size := Nat.le_of_lt (Nat.lt_of_le_of_lt hbr0 hraw0.lt)
  have hRc : R.cells = LC - s.heap.size := by rw [← hR]; rfl
  have hRs : R.slots = LS - jTot s.heap := by rw [← hR]; rfl
  have hin2 : meth.name = "<init>" := (name_of_methodNamed Bd.named Bd.method).1
  have hkp : jKx r0 G0 G0 s.heap s.heap := jKx.rf
  refine lv_aload_n hx hb dX1_init_0 rfl (lv_at hl 0 rfl) ?_
  refine W.objInit hx hb hown (htw (.methodLink RX1 3 objectInit) (jWr_10 _ (List.mem_of_getElem? (i := 4) rfl))) (htw (.instanceMethod objectInit) (jWr_1 _ (List.mem_of_getElem? (i := 10) rfl))) (htw (.code objectInit ⟨#[0xb1]⟩ 1 none) (jWr_1 _ (List.mem_of_getElem? (i := 11) rfl))) rfl (by rw [hml]; exact hl.1) rfl dX1_init_1 (by rw [← hR]; exact Nat.le_of_ble_eq_true rfl) (by rw [← hR]; exact Nat.le_of_ble_eq_true rfl) ?_
  refine W.eq (g2 := F0 m 4 ls []) rfl ?_
  refine lv_aload_n hx hb dX1_init_4 rfl (lv_at hl 0 rfl) ?_
  refine lv_iconst (v := 0) hx hb dX1_init_5 (by decide) ?_
  have hsz_1 := hh.2.2.2.2.2.1
  have htt_1 := hh.2.2.2.2.2.2.1
  refine j7_newiK hx hb hK hh hB (atype := .int) (ty := .int) (htw (.arrayClass .int) (jWr_3 _ (List.mem_of_getElem? (i := 20) rfl))) rfl rfl (fun _ h => h) hB101 1 rfl (by decide) (by decide) hbs (x := 0) (by decide) (by omega) (fun j => by first | trivial | decide | rfl | exact Or.inl rfl | (refine ⟨?_, ?_⟩ <;> decide)) (by rw [hRc]; omega) (by rw [hRs]; omega) dX1_init_6 (fun H_1 hfr_1 hh_1 => ?_)
  have hh_1 : jSt (dC, dI) B base G0 (va_up G0 s.heap.size (some (101, 0))) EX1_init s.heap (0 + 1) (0 + 0) [] [] [] H_1 [] := hh_1
  have hN_1 : (jNk [0, 1, 2, 4, 5, 6, 7, 8, 9, 10, 11, 12, 13, 14, 15, 16]) G0 (va_up G0 s.heap.size (some (101, 0))) := jNk.new (by decide)
  have hgn_1 : (va_up G0 s.heap.size (some (101, 0))) s.heap.size = some (101, 0) := jUp_self
  have hle_1 : jLe G0 (va_up G0 s.heap.size (some (101, 0))) := jLe.new hh.2.1.fresh
  have hke_1 : jKe G0 (va_up G0 s.heap.size (some (101, 0))) s.heap H_1 := jKe.new hfr_1
  have hsy_1 : s.heap.size ≤ s.heap.size := hh.1.1
  generalize (va_up G0 s.heap.size (some (101, 0))) = G_1 at hN_1 hgn_1 hle_1 hke_1 hh_1
  clear hh
  have hNn_1 : (jNk [0, 1, 2, 4, 5, 6, 7, 8, 9, 10, 11, 12, 13, 14, 15, 16]) G0 G_1 := (jNk.rf).tr hN_1
  have hkp_2 := hkp.tr hke_1
  have hraw_3n := hke_1.nr hraw0.lt hnr0
  have hraw_3 := hraw0.kept (hke_1.1 _ hraw0.lt)
  refine j7_putR hx hb hown hK hh_1 hB hAp hraw_3 hraw_3n hbr0 (C := RX1) (T := TX1) (N := 17) rfl (i := 0) (by decide) (Nat.le_of_ble_eq_true rfl) hly_3_0 rfl hlk_9 (ty := (.array .int)) (v := .ref s.heap.size) (by decide +kernel) rfl rfl dX1_init_8 (fun H_4 locs_4 hraw_4 hr_4 hh_4 => ?_)
  have hraw_4 : va_at (dC, dI) vwCl (r0, .inr (3, [.ref s.heap.size, .int 0, .null, .int 0, .int 0, .null, .null, .null, .null, .null, .int 0, .null, .null, .int 0, .int 0, .int 0, .int 0])) H_4 := hraw_4
  have hkp_5 := hkp_2.put hr_4
  clear hh_1
  refine lv_aload_n hx hb dX1_init_11 rfl (lv_at hl 0 rfl) ?_
  refine lv_sipush (v := 1500) hx hb dX1_init_12 (by decide) ?_
  have hsz_6 := hh_4.2.2.2.2.2.1
  have htt_6 := hh_4.2.2.2.2.2.2.1
  refine j7_newiK hx hb hK hh_4 hB (atype := .int) (ty := .int) (htw (.arrayClass .int) (jWr_3 _ (List.mem_of_getElem? (i := 20) rfl))) rfl rfl (fun _ h => h) hB101 1 rfl (by decide) (by decide) hbs (x := 1500) (by decide) (by omega) (fun j => by first | trivial | decide | rfl | exact Or.inl rfl | (refine ⟨?_, ?_⟩ <;> decide)) (by rw [hRc]; omega) (by rw [hRs]; omega) dX1_init_15 (fun H_6 hfr_6 hh_6 => ?_)
  have hh_6 : jSt (dC, dI) B base G0 (va_up G_1 H_4.size (some (101, 1500))) EX1_init s.heap ((0 + 1) + 1) ((0 + 0) + 1500) [] [] [] H_6 locs_4 := hh_6
  have hN_6 : (jNk [0, 1, 2, 4, 5, 6, 7, 8, 9, 10, 11, 12, 13, 14, 15, 16]) G_1 (va_up G_1 H_4.size (some (101, 1500))) := jNk.new (by decide)
  have hgn_6 : (va_up G_1 H_4.size (some (101, 1500))) H_4.size = some (101, 1500) := jUp_self
  have hle_6 : jLe G_1 (va_up G_1 H_4.size (some (101, 1500))) := jLe.new hh_4.2.1.fresh
  have hke_6 : jKe G_1 (va_up G_1 H_4.size (some (101, 1500))) H_4 H_6 := jKe.new hfr_6
  have hsy_6 : s.heap.size ≤ H_4.size := hh_4.1.1
  generalize (va_up G_1 H_4.size (some (101, 1500))) = G_6 at hN_6 hgn_6 hle_6 hke_6 hh_6
  clear hh_4
  have hNn_6 : (jNk [0, 1, 2, 4, 5, 6, 7, 8, 9, 10, 11, 12, 13, 14, 15, 16]) G0 G_6 := (hNn_1).tr hN_6
  have hkp_7 := hkp_5.tr hke_6
  have hraw_8n := hke_6.nr hraw_4.lt hraw_3n
  have hraw_8 := hraw_4.kept (hke_6.1 _ hraw_4.lt)
  refine j7_putRF hx hb hown hK hh_6 hB hAp hraw_8 hraw_8n hbr0 (C := RX1) (T := TX1) (N := 17) rfl (i := 2) (by decide) (Nat.le_of_ble_eq_true rfl) hly_3_2 rfl hin2 rfl hlk_15 (ty := (.array .int)) (v := .ref H_4.size) (by decide +kernel) rfl rfl dX1_init_17 (fun H_9 locs_9 hraw_9 hr_9 hh_9 => ?_)
  have hraw_9 : va_at (dC, dI) vwCl (r0, .inr (3, [.ref s.heap.size, .int 0, .ref H_4.size, .int 0, .int 0, .null, .null, .null, .null, .null, .int 0, .null, .null, .int 0, .int 0, .int 0, .int 0])) H_9 := hraw_9
  have hkp_10 := hkp_7.put hr_9
  clear hh_6
  refine lv_aload_n hx hb dX1_init_20 rfl (lv_at hl 0 rfl) ?_
  refine lv_bipush (v := 40) hx hb dX1_init_21 (by decide) ?_
  have hsz_11 := hh_9.2.2.2.2.2.1
  have htt_11 := hh_9.2.2.2.2.2.2.1
  refine j7_newiK hx hb hK hh_9 hB (atype := .int) (ty := .int) (htw (.arrayClass .int) (jWr_3 _ (List.mem_of_getElem? (i := 20) rfl))) rfl rfl (fun _ h => h) hB171 1 rfl (by decide) (by decide) hbs (x := 40) (by decide) (by omega) (fun j => by first | trivial | decide | rfl | exact Or.inl rfl | (refine ⟨?_, ?_⟩ <;> decide)) (by rw [hRc]; omega) (by rw [hRs]; omega) dX1_init_23 (fun H_11 hfr_11 hh_11 => ?_)
  have hh_11 : jSt (dC, dI) B base G0 (va_up G_6 H_9.size (some (171, 40))) EX1_init s.heap (((0 + 1) + 1) + 1) (((0 + 0) + 1500) + 40) [] [] [] H_11 locs_9 := hh_11
  have hN_11 : (jNk [0, 1, 2, 4, 5, 6, 7, 8, 9, 10, 11, 12, 13, 14, 15, 16]) G_6 (va_up G_6 H_9.size (some (171, 40))) := jNk.new (by decide)
  have hgn_11 : (va_up G_6 H_9.size (some (171, 40))) H_9.size = some (171, 40) := jUp_self
  have hle_11 : jLe G_6 (va_up G_6 H_9.size (some (171, 40))) := jLe.new hh_9.2.1.fresh
  have hke_11 : jKe G_6 (va_up G_6 H_9.size (some (171, 40))) H_9 H_11 := jKe.new hfr_11
  have hsy_11 : s.heap.size ≤ H_9.size := hh_9.1.1
  generalize (va_up G_6 H_9.size (some (171, 40))) = G_11 at hN_11 hgn_11 hle_11 hke_11 hh_11
  clear hh_9
  have hNn_11 : (jNk [0, 1, 2, 4, 5, 6, 7, 8, 9, 10, 11, 12, 13, 14, 15, 16]) G0 G_11 := (hNn_6).tr hN_11
  have hkp_12 := hkp_10.tr hke_11
  have hraw_13n := hke_11.nr hraw_9.lt hraw_8n
  have hraw_13 := hraw_9.kept (hke_11.1 _ hraw_9.lt)
  refine j7_putRF hx hb hown hK hh_11 hB hAp hraw_13 hraw_13n hbr0 (C := RX1) (T := TX1) (N := 17) rfl (i := 5) (by decide) (Nat.le_of_ble_eq_true rfl) hly_3_5 rfl hin2 rfl hlk_18 (ty := (.array .int)) (v := .ref H_9.size) (by decide +kernel) rfl rfl dX1_init_25 (fun H_14 locs_14 hraw_14 hr_14 hh_14 => ?_)
  have hraw_14 : va_at (dC, dI) vwCl (r0, .inr (3, [.ref s.heap.size, .int 0, .ref H_4.size, .int 0, .int 0, .ref H_9.size, .null, .null, .null, .null, .int 0, .null, .null, .int 0, .int 0, .int 0, .int 0])) H_14 := hraw_14
  have hkp_15 := hkp_12.put hr_14
  clear hh_11
  refine lv_aload_n hx hb dX1_init_28 rfl (lv_at hl 0 rfl) ?_
  refine lv_bipush (v := 40) hx hb dX1_init_29 (by decide) ?_
  have hsz_16 := hh_14.2.2.2.2.2.1
  have htt_16 := hh_14.2.2.2.2.2.2.1
  refine j7_newiK hx hb hK hh_14 hB (atype := .int) (ty := .int) (htw (.arrayClass .int) (jWr_3 _ (List.mem_of_getElem? (i := 20) rfl))) rfl rfl (fun _ h => h) hB172 1 rfl (by decide) (by decide) hbs (x := 40) (by decide) (by omega) (fun j => by first | trivial | decide | rfl | exact Or.inl rfl | (refine ⟨?_, ?_⟩ <;> decide)) (by rw [hRc]; omega) (by rw [hRs]; omega) dX1_init_31 (fun H_16 hfr_16 hh_16 => ?_)
  have hh_16 : jSt (dC, dI) B base G0 (va_up G_11 H_14.size (some (172, 40))) EX1_init s.heap ((((0 + 1) + 1) + 1) + 1) ((((0 + 0) + 1500) + 40) + 40) [] [] [] H_16 locs_14 := hh_16
  have hN_16 : (jNk [0, 1, 2, 4, 5, 6, 7, 8, 9, 10, 11, 12, 13, 14, 15, 16]) G_11 (va_up G_11 H_14.size (some (172, 40))) := jNk.new (by decide)
  have hgn_16 : (va_up G_11 H_14.size (some (172, 40))) H_14.size = some (172, 40) := jUp_self
  have hle_16 : jLe G_11 (va_up G_11 H_14.size (some (172, 40))) := jLe.new hh_14.2.1.fresh
  have hke_16 : jKe G_11 (va_up G_11 H_14.size (some (172, 40))) H_14 H_16 := jKe.new hfr_16
  have hsy_16 : s.heap.size ≤ H_14.size := hh_14.1.1
  generalize (va_up G_11 H_14.size (some (172, 40))) = G_16 at hN_16 hgn_16 hle_16 hke_16 hh_16
  clear hh_14
  have hNn_16 : (jNk [0, 1, 2, 4, 5, 6, 7, 8, 9, 10, 11, 12, 13, 14, 15, 16]) G0 G_16 := (hNn_11).tr hN_16
  have hkp_17 := hkp_15.tr hke_16
  have hraw_18n := hke_16.nr hraw_14.lt hraw_13n
  have hraw_18 := hraw_14.kept (hke_16.1 _ hraw_14.lt)
  refine j7_putRF hx hb hown hK hh_16 hB hAp hraw_18 hraw_18n hbr0 (C := RX1) (T := TX1) (N := 17) rfl (i := 6) (by decide) (Nat.le_of_ble_eq_true rfl) hly_3_6 rfl hin2 rfl hlk_21 (ty := (.array .int)) (v := .ref H_14.size) (by decide +kernel) rfl rfl dX1_init_33 (fun H_19 locs_19 hraw_19 hr_19 hh_19 => ?_)
  have hraw_19 : va_at (dC, dI) vwCl (r0, .inr (3, [.ref s.heap.size, .int 0, .ref H_4.size, .int 0, .int 0, .ref H_9.size, .ref H_14.size, .null, .null, .null, .int 0, .null, .null, .int 0, .int 0, .int 0, .int 0])) H_19 := hraw_19
  have hkp_20 := hkp_17.put hr_19
  clear hh_16
  refine lv_aload_n hx hb dX1_init_36 rfl (lv_at hl 0 rfl) ?_
  refine lv_bipush (v := 40) hx hb dX1_init_37 (by decide) ?_
  have hsz_21 := hh_19.2.2.2.2.2.1
  have htt_21 := hh_19.2.2.2.2.2.2.1
  refine j7_newiK hx hb hK hh_19 hB (atype := .int) (ty := .int) (htw (.arrayClass .int) (jWr_3 _ (List.mem_of_getElem? (i := 20) rfl))) rfl rfl (fun _ h => h) hB101 1 rfl (by decide) (by decide) hbs (x := 40) (by decide) (by omega) (fun j => by first | trivial | decide | rfl | exact Or.inl rfl | (refine ⟨?_, ?_⟩ <;> decide)) (by rw [hRc]; omega) (by rw [hRs]; omega) dX1_init_39 (fun H_21 hfr_21 hh_21 => ?_)
  have hh_21 : jSt (dC, dI) B base G0 (va_up G_16 H_19.size (some (101, 40))) EX1_init s.heap (((((0 + 1) + 1) + 1) + 1) + 1) (((((0 + 0) + 1500) + 40) + 40) + 40) [] [] [] H_21 locs_19 := hh_21
  have hN_21 : (jNk [0, 1, 2, 4, 5, 6, 7, 8, 9, 10, 11, 12, 13, 14, 15, 16]) G_16 (va_up G_16 H_19.size (some (101, 40))) := jNk.new (by decide)
  have hgn_21 : (va_up G_16 H_19.size (some (101, 40))) H_19.size = some (101, 40) := jUp_self
  have hle_21 : jLe G_16 (va_up G_16 H_19.size (some (101, 40))) := jLe.new hh_19.2.1.fresh
  have hke_21 : jKe G_16 (va_up G_16 H_19.size (some (101, 40))) H_19 H_21 := jKe.new hfr_21
  have hsy_21 : s.heap.size ≤ H_19.size := hh_19.1.1
  generalize (va_up G_16 H_19.size (some (101, 40))) = G_21 at hN_21 hgn_21 hle_21 hke_21 hh_21
  clear hh_19
  have hNn_21 : (jNk [0, 1, 2, 4, 5, 6, 7, 8, 9, 10, 11, 12, 13, 14, 15, 16]) G0 G_21 := (hNn_16).tr hN_21
  have hkp_22 := hkp_20.tr hke_21
  have hraw_23n := hke_21.nr hraw_19.lt hraw_18n
  have hraw_23 := hraw_19.kept (hke_21.1 _ hraw_19.lt)
  refine j7_putRF hx hb hown hK hh_21 hB hAp hraw_23 hraw_23n hbr0 (C := RX1) (T := TX1) (N := 17) rfl (i := 7) (by decide) (Nat.le_of_ble_eq_true rfl) hly_3_7 rfl hin2 rfl hlk_24 (ty := (.array .int)) (v := .ref H_19.size) (by decide +kernel) rfl rfl dX1_init_41 (fun H_24 locs_24 hraw_24 hr_24 hh_24 => ?_)
  have hraw_24 : va_at (dC, dI) vwCl (r0, .inr (3, [.ref s.heap.size, .int 0, .ref H_4.size, .int 0, .int 0, .ref H_9.size, .ref H_14.size, .ref H_19.size, .null, .null, .int 0, .null, .null, .int 0, .int 0, .int 0, .int 0])) H_24 := hraw_24
  have hkp_25 := hkp_22.put hr_24
  clear hh_21
  refine lv_aload_n hx hb dX1_init_44 rfl (lv_at hl 0 rfl) ?_
  refine lv_bipush (v := 40) hx hb dX1_init_45 (by decide) ?_
  have hsz_26 := hh_24.2.2.2.2.2.1
  have htt_26 := hh_24.2.2.2.2.2.2.1
  refine j7_newiK hx hb hK hh_24 hB (atype := .int) (ty := .int) (htw (.arrayClass .int) (jWr_3 _ (List.mem_of_getElem? (i := 20) rfl))) rfl rfl (fun _ h => h) hB101 1 rfl (by decide) (by decide) hbs (x := 40) (by decide) (by omega) (fun j => by first | trivial | decide | rfl | exact Or.inl rfl | (refine ⟨?_, ?_⟩ <;> decide)) (by rw [hRc]; omega) (by rw [hRs]; omega) dX1_init_47 (fun H_26 hfr_26 hh_26 => ?_)
  have hh_26 : jSt (dC, dI) B base G0 (va_up G_21 H_24.size (some (101, 40))) EX1_init s.heap ((((((0 + 1) + 1) + 1) + 1) + 1) + 1) ((((((0 + 0) + 1500) + 40) + 40) + 40) + 40) [] [] [] H_26 locs_24 := hh_26
  have hN_26 : (jNk [0, 1, 2, 4, 5, 6, 7, 8, 9, 10, 11, 12, 13, 14, 15, 16]) G_21 (va_up G_21 H_24.size (some (101, 40))) := jNk.new (by decide)
  have hgn_26 : (va_up G_21 H_24.size (some (101, 40))) H_24.size = some (101, 40) := jUp_self
  have hle_26 : jLe G_21 (va_up G_21 H_24.size (some (101, 40))) := jLe.new hh_24.2.1.fresh
  have hke_26 : jKe G_21 (va_up G_21 H_24.size (some (101, 40))) H_24 H_26 := jKe.new hfr_26
  have hsy_26 : s.heap.size ≤ H_24.size := hh_24.1.1
  generalize (va_up G_21 H_24.size (some (101, 40))) = G_26 at hN_26 hgn_26 hle_26 hke_26 hh_26
  clear hh_24
  have hNn_26 : (jNk [0, 1, 2, 4, 5, 6, 7, 8, 9, 10, 11, 12, 13, 14, 15, 16]) G0 G_26 := (hNn_21).tr hN_26
  have hkp_27 := hkp_25.tr hke_26
  have hraw_28n := hke_26.nr hraw_24.lt hraw_23n
  have hraw_28 := hraw_24.kept (hke_26.1 _ hraw_24.lt)
  refine j7_putRF hx hb hown hK hh_26 hB hAp hraw_28 hraw_28n hbr0 (C := RX1) (T := TX1) (N := 17) rfl (i := 8) (by decide) (Nat.le_of_ble_eq_true rfl) hly_3_8 rfl hin2 rfl hlk_27 (ty := (.array .int)) (v := .ref H_24.size) (by decide +kernel) rfl rfl dX1_init_49 (fun H_29 locs_29 hraw_29 hr_29 hh_29 => ?_)
  have hraw_29 : va_at (dC, dI) vwCl (r0, .inr (3, [.ref s.heap.size, .int 0, .ref H_4.size, .int 0, .int 0, .ref H_9.size, .ref H_14.size, .ref H_19.size, .ref H_24.size, .null, .int 0, .null, .null, .int 0, .int 0, .int 0, .int 0])) H_29 := hraw_29
  have hkp_30 := hkp_27.put hr_29
  clear hh_26
  refine lv_aload_n hx hb dX1_init_52 rfl (lv_at hl 0 rfl) ?_
  refine lv_bipush (v := 40) hx hb dX1_init_53 (by decide) ?_
  have hsz_31 := hh_29.2.2.2.2.2.1
  have htt_31 := hh_29.2.2.2.2.2.2.1
  have hsy_31 : s.heap.size ≤ H_29.size := hh_29.1.1
  refine j7_newqK hx hb hown (htw (.classLink RX1 30 RX9) (jWr_10 _ (List.mem_of_getElem? (i := 11) rfl))) hK6.2.2.1 hK2 hh_29 hB hB210 2 rfl (by decide) hbs (x := 40) (by decide) (by omega) (fun _ => Or.inl rfl) (by rw [hRc]; omega) (by rw [hRs]; omega) dX1_init_55 (fun H_31 hfr_31 hh_31 hqn_31 => ?_)
  have hh_31 : jSt (dC, dI) B base G0 (va_up G_26 H_29.size (some (210, 40))) EX1_init s.heap (((((((0 + 1) + 1) + 1) + 1) + 1) + 1) + 1) (((((((0 + 0) + 1500) + 40) + 40) + 40) + 40) + 40) [] [] [] H_31 locs_29 := hh_31
  have hN_31 : (jNk [0, 1, 2, 4, 5, 6, 7, 8, 9, 10, 11, 12, 13, 14, 15, 16]) G_26 (va_up G_26 H_29.size (some (210, 40))) := jNk.new (by decide)
  have hgn_31 : (va_up G_26 H_29.size (some (210, 40))) H_29.size = some (210, 40) := jUp_self
  have hle_31 : jLe G_26 (va_up G_26 H_29.size (some (210, 40))) := jLe.new hh_29.2.1.fresh
  have hke_31 : jKe G_26 (va_up G_26 H_29.size (some (210, 40))) H_29 H_31 := jKe.new hfr_31
  have hsy_31 : s.heap.size ≤ H_29.size := hh_29.1.1
  generalize (va_up G_26 H_29.size (some (210, 40))) = G_31 at hN_31 hgn_31 hle_31 hke_31 hh_31
  clear hh_29
  have hNn_31 : (jNk [0, 1, 2, 4, 5, 6, 7, 8, 9, 10, 11, 12, 13, 14, 15, 16]) G0 G_31 := (hNn_26).tr hN_31
  have hkp_32 := hkp_30.tr hke_31
  have hraw_33n := hke_31.nr hraw_29.lt hraw_28n
  have hraw_33 := hraw_29.kept (hke_31.1 _ hraw_29.lt)
  refine j7_putRF hx hb hown hK hh_31 hB hAp hraw_33 hraw_33n hbr0 (C := RX1) (T := TX1) (N := 17) rfl (i := 9) (by decide) (Nat.le_of_ble_eq_true rfl) hly_3_9 rfl hin2 rfl hlk_32 (ty := (.array (.object "ProofServer$State"))) (v := .ref H_29.size) (by decide +kernel) rfl rfl dX1_init_58 (fun H_34 locs_34 hraw_34 hr_34 hh_34 => ?_)
  have hraw_34 : va_at (dC, dI) vwCl (r0, .inr (3, [.ref s.heap.size, .int 0, .ref H_4.size, .int 0, .int 0, .ref H_9.size, .ref H_14.size, .ref H_19.size, .ref H_24.size, .ref H_29.size, .int 0, .null, .null, .int 0, .int 0, .int 0, .int 0])) H_34 := hraw_34
  have hkp_35 := hkp_32.put hr_34
  clear hh_31
  have hsz_36 := hh_34.2.2.2.2.2.1
  have htt_36 := hh_34.2.2.2.2.2.2.1
  refine W.room (fun hrc_36 hrs_36 => ?_)
  refine W.widen (k := LC - s.heap.size) (n := LS - jTot s.heap) (by omega) (by omega) ?_
  rw [hQ]
  have hle_37 : jLe G_31 (va_up G_31 r0 (some (3, kn))) := jLe.typ hraw_33n
  have hg_38 := ((((((hle_6).tr hle_11).tr hle_16).tr hle_21).tr hle_26).tr hle_31).tr hle_37 _ _ hgn_1
  have hg_39 := (((((hle_11).tr hle_16).tr hle_21).tr hle_26).tr hle_31).tr hle_37 _ _ hgn_6
  have hg_40 := ((((hle_16).tr hle_21).tr hle_26).tr hle_31).tr hle_37 _ _ hgn_11
  have hg_41 := (((hle_21).tr hle_26).tr hle_31).tr hle_37 _ _ hgn_16
  have hg_42 := ((hle_26).tr hle_31).tr hle_37 _ _ hgn_21
  have hg_43 := (hle_31).tr hle_37 _ _ hgn_26
  have hg_44 := (jLe.rf).tr hle_37 _ _ hgn_31
  have hfa_37 : jRk (va_up G_31 r0 (some (3, kn))) 101 3000 (.ref s.heap.size) ∧ jIa (.int 0) ∧ jRf (va_up G_31 r0 (some (3, kn))) 101 1500 (.ref H_4.size) ∧ jI 0 1500 (.int 0) ∧ jI 0 40 (.int 0) ∧ jRf (va_up G_31 r0 (some (3, kn))) 171 40 (.ref H_9.size) ∧ jRf (va_up G_31 r0 (some (3, kn))) 172 40 (.ref H_14.size) ∧ jRf (va_up G_31 r0 (some (3, kn))) 101 40 (.ref H_19.size) ∧ jRf (va_up G_31 r0 (some (3, kn))) 101 40 (.ref H_24.size) ∧ jRf (va_up G_31 r0 (some (3, kn))) 210 40 (.ref H_29.size) ∧ jI 0 40 (.int 0) ∧ jRm (va_up G_31 r0 (some (3, kn))) 101 1500 (.null) ∧ jRn (va_up G_31 r0 (some (3, kn))) 11 0 (.null) ∧ jIa (.int 0) ∧ jIa (.int 0) ∧ jIa (.int 0) ∧ jI 0 1500 (.int 0) ∧ True := ⟨⟨_, _, rfl, hg_38, by omega⟩, ⟨_, rfl⟩, ⟨_, rfl, hg_39⟩, ⟨_, rfl, by omega, by omega⟩, ⟨_, rfl, by omega, by omega⟩, ⟨_, rfl, hg_40⟩, ⟨_, rfl, hg_41⟩, ⟨_, rfl, hg_42⟩, ⟨_, rfl, hg_43⟩, ⟨_, rfl, hg_44⟩, ⟨_, rfl, by omega, by omega⟩, Or.inl rfl, Or.inl rfl, ⟨_, rfl⟩, ⟨_, rfl⟩, ⟨_, rfl⟩, ⟨_, rfl, by omega, by omega⟩, trivial⟩
  have hh_37 := hh_34.typ (k := 3) (n := kn) hB hraw_33n hbr0 hraw_34.lt (jOb.of (C := RX1) (T := TX1) (N := 17) (F := F3) hB3 rfl hraw_34 (show jFx (F3 kn (va_up G_31 r0 (some (3, kn)))) [.ref s.heap.size, .int 0, .ref H_4.size, .int 0, .int 0, .ref H_9.size, .ref H_14.size, .ref H_19.size, .ref H_24.size, .ref H_29.size, .int 0, .null, .null, .int 0, .int 0, .int 0, .int 0] from hfa_37))
  have hgn_37 : (va_up G_31 r0 (some (3, kn))) r0 = some (3, kn) := jUp_self
  have hN_37 : (jNk [0, 1, 2, 4, 5, 6, 7, 8, 9, 10, 11, 12, 13, 14, 15, 16]) G_31 (va_up G_31 r0 (some (3, kn))) := jNk.new (by decide)
  have hNn_37 : (jNk [0, 1, 2, 4, 5, 6, 7, 8, 9, 10, 11, 12, 13, 14, 15, 16]) G0 (va_up G_31 r0 (some (3, kn))) := (hNn_31).tr hN_37
  have hkp_45 := hkp_35.typ (t := some (3, kn))
  exact W.vret hx hb hr (fun t ht hW => ⟨⟨(va_up G_31 r0 (some (3, kn))), rfl, trivial, ⟨hh_37.ra (by first | omega | (simp only; omega)) (by first | omega | (simp only; omega)) (M1 := []) [] rfl ht, hNn_37, hgn_37, by rw [ht]; exact hkp_45⟩⟩, by rw [ht]; try exact hh_37.1.1, fun q h9 hq => by rw [ht]; try exact hh_37.1.2.1 q h9 hq⟩) hh_37.1.2.2 dX1_init_61
set_option maxHeartbeats 4000000 in
set_option maxRecDepth 20000 in
theorem uX5_init (l : Launch) (dC : Nat → ClassId) (dI : Nat → Nat → Nat) (ca : Nat → ClassId) (base : Nat) (B : jF) (hB : jBok B) (hAp : jAp (dC, dI)) (hB5 : ∀ n G a H, B 5 n G a H ↔ jOb (dC, dI) 5 4 (F5 n G) a H) (hB7 : ∀ n G a H, B 7 n G a H ↔ jOb (dC, dI) 7 11 (F7 n G) a H) (hB8 : ∀ n G a H, B 8 n G a H ↔ jOb (dC, dI) 8 4 (F8 n G) a H) (hB11 : ∀ n G a H, B 11 n G a H ↔ jOb (dC, dI) 11 9 (F11 n G) a H) (hB12 : ∀ n G a H, B 12 n G a H ↔ jOb (dC, dI) 12 11 (F12b n G) a H) (hB101 : ∀ n G a H, B 101 n G a H ↔ jAr (dC, dI) (ca 1) (fun j z => True) n a H) (hB102 : ∀ n G a H, B 102 n G a H ↔ jAl (dC, dI) (ca 2) n a H) (hB132 : ∀ n G a H, B 132 n G a H ↔ jAr (dC, dI) (ca 1) (fun j z => 0 ≤ z.toInt ∧ z.toInt ≤ 10) n a H) (hB133 : ∀ n G a H, B 133 n G a H ↔ jAr (dC, dI) (ca 1) (fun j z => 0 ≤ z.toInt ∧ z.toInt ≤ 8192) n a H) (hB211 : ∀ n G a H, B 211 n G a H ↔ jAq (dC, dI) (ca 7) (jQh) n G a H) (hB214 : ∀ n G a H, B 214 n G a H ↔ jAq (dC, dI) (ca 7) (jQg) n G a H) (hB280 : ∀ n G a H, B 280 n G a H ↔ jAr (dC, dI) (ca 1) (fun j z => -1 ≤ z.toInt) n a H) (hB290 : ∀ n G a H, B 290 n G a H ↔ jAr (dC, dI) (ca 1) (fun j z => 0 ≤ z.toInt ∧ z.toInt ≤ 3000) n a H) (hB291 : ∀ n G a H, B 291 n G a H ↔ jAr (dC, dI) (ca 1) (fun j z => 0 ≤ z.toInt ∧ z.toInt ≤ 3000) n a H) (hB292 : ∀ n G a H, B 292 n G a H ↔ jAr (dC, dI) (ca 1) (fun j z => 0 ≤ z.toInt ∧ z.toInt ≤ 8191) n a H) (hB293 : ∀ n G a H, B 293 n G a H ↔ jAr (dC, dI) (ca 1) (fun j z => -1 ≤ z.toInt ∧ z.toInt ≤ 8191) n a H) (hB313 : ∀ n G a H, B 313 n G a H ↔ jAq (dC, dI) (ca 8) (jQk 280 80) n G a H) (G0 : jT) (H0 : Heap) (r0 : Nat) (LC LS : Nat) : Met l yX5_init (jw yX5_init cX5_init 1 none) ({ frames := 5, cells := LC - H0.size, slots := LS - jTot H0, locals := 164 }) (va_Pc [.ref r0] (fun U => U.heap = H0 ∧ jX B base G0 [] H0 ∧ jG dC dI ca base U ∧ jK2 dC dI ca U ∧ jK5 dC dI ca U ∧ jK6 U ∧ va_at (dC, dI) vwCl (r0, .inr (7, [.null, .null, .null, .null, .null, .null, .null, .null, .null, .null, .int 0])) H0 ∧ (∀ t, G0 r0 ≠ some t) ∧ base ≤ r0 ∧ jP (dC, dI) G0 H0 [] ∧ jIs (dC, dI) G0 H0 [(jFs11, jSef dC dI G0)] ∧ H0.size + 24 ≤ LC ∧ jTot H0 + 38990 ≤ LS ∧ True)) (va_Qv (S := jT) (fun u => True) (fun u t => jRa (dC, dI) B base G0 u EX5_init H0 (24) (38990) [] t.heap ∧ (jNk [0, 1, 2, 3, 4, 5, 6, 9, 10, 13, 14, 15, 16]) G0 u ∧ u r0 = some (7, 0) ∧ jKx r0 G0 u H0 t.heap ∧ jIs (dC, dI) u t.heap [(jFs11, jSef dC dI u)]) (jA base)) (LC - H0.size) (LS - jTot H0) (jA base) := by
  refine Met.ofW (cc := cX5_init) (maxL := 1) (ret := none) (by decide) rfl ?_
  intro p e s m args below meth c s₁ Bd hml hv
  obtain ⟨rfl, hH0, hX, hG, hK2, hK5, hK6, hraw0, hnr0, hbr0, hP0, hI0, hLC0, hLS0, hp0⟩ := hv
  have hK := hG.1
  have hx := Bd.exec
  have hb := Bd.bytes
  have hr := Bd.returns
  have hts := atoms_spec (ws := (jw yX5_init cX5_init 1 none)) Bd.pre
  have htw : ∀ w ∈ jWl, w.before _ s = true := fun w h => hts w (List.mem_cons_of_mem _ h)
  have hown : s.vm.findClass RX5 = some m.cls := findClass_of_methodNamed Bd.named
  have hlocks := Bd.notSynchronized
  obtain ⟨Q, hQ⟩ : ∃ Q, Q = MQ below (va_Qv (S := jT) (fun u => True) (fun u t => jRa (dC, dI) B base G0 u EX5_init H0 (24) (38990) [] t.heap ∧ (jNk [0, 1, 2, 3, 4, 5, 6, 9, 10, 13, 14, 15, 16]) G0 u ∧ u r0 = some (7, 0) ∧ jKx r0 G0 u H0 t.heap ∧ jIs (dC, dI) u t.heap [(jFs11, jSef dC dI u)]) (jA base)) ([.ref r0] : List Value).toArray s (LC - H0.size) (LS - jTot H0) (jA base) := ⟨_, rfl⟩
  rw [← hQ]
  have hl := lv_entry ([.ref r0]) (n := 1) (Nat.le_of_ble_eq_true rfl)
  rw [lg_entry_eq]
  generalize (lg_sl ([.ref r0]) ++ List.replicate (1 - (lg_sl ([.ref r0])).length) Slot.unset).toArray = ls at hl ⊢
  have hl : lv_has ls 1 [(0, .ref r0)] := hl
  generalize hR : (headSpec (jw yX5_init cX5_init 1 none) ({ frames := 5, cells := LC - H0.size, slots := LS - jTot H0, locals := 164 })).room = R
  subst hH0
  have hh : jSt (dC, dI) B base G0 G0 EX5_init s.heap 0 0 [] [] [(jFs11, jSef dC dI G0)] s.heap [] := jSt.start hX hP0 jMc.nil hI0
  clear hX hP0
  have hk0 : (0 : Int32).toInt = 0 := by decide
  have hk1 : (1 : Int32).toInt = 1 := by decide
  have hk6 : (6 : Int32).toInt = 6 := by decide
  have hk13 : (13 : Int32).toInt = 13 := by decide
  have hly_7_0 := htw (u_lay RX5 TX5 0) (jWc_wsX50 _ (u_in_lay (by decide)))
  have hly_7_1 := htw (u_lay RX5 TX5 1) (jWc_wsX50 _ (u_in_lay (by decide)))
  have hly_7_2 := htw (u_lay RX5 TX5 2) (jWc_wsX50 _ (u_in_lay (by decide)))
  have hly_7_3 := htw (u_lay RX5 TX5 3) (jWc_wsX50 _ (u_in_lay (by decide)))
  have hly_7_4 := htw (u_lay RX5 TX5 4) (jWc_wsX50 _ (u_in_lay (by decide)))
  have hly_7_5 := htw (u_lay RX5 TX5 5) (jWc_wsX50 _ (u_in_lay (by decide)))
  have hly_7_6 := htw (u_lay RX5 TX5 6) (jWc_wsX50 _ (u_in_lay (by decide)))
  have hly_7_7 := htw (u_lay RX5 TX5 7) (jWc_wsX50 _ (u_in_lay (by decide)))
  have hly_7_8 := htw (u_lay RX5 TX5 8) (jWc_wsX50 _ (u_in_lay (by decide)))
  have hly_7_9 := htw (u_lay RX5 TX5 9) (jWc_wsX50 _ (u_in_lay (by decide)))
  have hlk_12 := (htw (.fieldLink RX5 12 "ProofServer$Kernel" "names" "LProofServer$Names;") (jWr_4 _ (List.mem_of_getElem? (i := 11) rfl)))
  have hlk_23 := (htw (.fieldLink RX5 23 "ProofServer$Kernel" "syntax" "LProofServer$Syntax;") (jWr_4 _ (List.mem_of_getElem? (i := 15) rfl)))
  have hlk_30 := (htw (.fieldLink RX5 30 "ProofServer$Kernel" "start" "LProofServer$State;") (jWr_4 _ (List.mem_of_getElem? (i := 19) rfl)))
  have hlk_34 := (htw (.fieldLink RX5 34 "ProofServer$Kernel" "scopeNames" "[I") (jWr_4 _ (List.mem_of_getElem? (i := 20) rfl)))
  have hlk_38 := (htw (.fieldLink RX5 38 "ProofServer$Kernel" "scopeEnds" "[I") (jWr_4 _ (List.mem_of_getElem? (i := 21) rfl)))
  have hlk_41 := (htw (.fieldLink RX5 41 "ProofServer$Kernel" "source" "[I") (jWr_4 _ (List.mem_of_getElem? (i := 22) rfl)))
  have hlk_44 := (htw (.fieldLink RX5 44 "ProofServer$Kernel" "termFrom" "[I") (jWr_4 _ (List.mem_of_getElem? (i := 23) rfl)))
  have hlk_47 := (htw (.fieldLink RX5 47 "ProofServer$Kernel" "termSize" "[I") (jWr_5 _ (List.mem_of_getElem? (i := 0) rfl)))
  have hlk_50 := (htw (.fieldLink RX5 50 "ProofServer$Kernel" "single" "[I") (jWr_5 _ (List.mem_of_getElem? (i := 1) rfl)))
  have hlk_55 := (htw (.fieldLink RX5 55 "ProofServer$Kernel" "fresh" "[LProofServer$Goal;") (jWr_5 _ (List.mem_of_getElem? (i := 3) rfl)))
  have hbs : base ≤ s.heap.size := Nat.le_of_lt (Nat.lt_of_le_of_lt hbr0 hraw0.lt)
  have hRc : R.cells = LC - s.heap.size := by rw [← hR]; rfl
  have hRs : R.slots = LS - jTot s.heap := by rw [← hR]; rfl
  have hin2 : meth.name = "<init>" := (name_of_methodNamed Bd.named Bd.method).1
  have hkp : jKx r0 G0 G0 s.heap s.heap := jKx.rf
  refine lv_aload_n hx hb dX5_init_0 rfl (lv_at hl 0 rfl) ?_
  refine W.objInit hx hb hown (htw (.methodLink RX5 3 objectInit) (jWr_4 _ (List.mem_of_getElem? (i := 7) rfl))) (htw (.instanceMethod objectInit) (jWr_1 _ (List.mem_of_getElem? (i := 10) rfl))) (htw (.code objectInit ⟨#[0xb1]⟩ 1 none) (jWr_1 _ (List.mem_of_getElem? (i := 11) rfl))) rfl (by rw [hml]; exact hl.1) rfl dX5_init_1 (by rw [← hR]; exact Nat.le_of_ble_eq_true rfl) (by rw [← hR]; exact Nat.le_of_ble_eq_true rfl) ?_
  refine W.eq (g2 := F0 m 4 ls []) rfl ?_
  refine lv_aload_n hx hb dX5_init_4 rfl (lv_at hl 0 rfl) ?_
  have hsz_1 := hh.2.2.2.2.2.1
  have htt_1 := hh.2.2.2.2.2.2.1
  refine j7_newo (k := 8) (C := RX6) (T := TX6) (N := 4) (fs := [.null, .null, .null, .int 0]) hx hb htw jWc_wsX60 (fun k => ([(.array .long), (.array .int), (.array .int), .int] : List FieldType).getD k .int) (by decide +kernel) hown (htw (.classLink RX5 9 RX6) (jWr_4 _ (List.mem_of_getElem? (i := 8) rfl))) (htw (.instantiable RX6 4) (jWr_4 _ (List.mem_of_getElem? (i := 9) rfl))) (htw (.initialized RX6) (jWr_4 _ (List.mem_of_getElem? (i := 10) rfl))) hK rfl (fun j hj => by rcases (by omega : j = 0 ∨ j = 1 ∨ j = 2 ∨ j = 3) with rfl | rfl | rfl | rfl <;> rfl) hh hB (by rw [hRc]; omega) (by rw [hRs]; omega) dX5_init_5 (fun H_1 hraw_1 hfr_1 hnr_1 hh_1 => ?_)
  have hlt_2 := hraw0.lt
  have hke_1 : jKe G0 G0 s.heap H_1 := jKe.raw hfr_1
  have hbr_1 : base ≤ s.heap.size := Nat.le_trans hbs hh.1.1
  have hsy_1 : s.heap.size ≤ s.heap.size := hh.1.1
  clear hh
  have hkp_3 := hkp.tr hke_1
  have hraw_4n := hke_1.nr hraw0.lt hnr0
  have hraw_4 := hraw0.kept (hke_1.1 _ hraw0.lt)
  have hne_5 : r0 ≠ s.heap.size := Nat.ne_of_lt hlt_2
  refine lv_dup hx hb dX5_init_8 rfl ?_
  have hsz_6 := hh_1.2.2.2.2.2.1
  have htt_6 := hh_1.2.2.2.2.2.2.1
  refine W.room (fun hrc_6 hrs_6 => ?_)
  refine va_callv (A0 := jA base) (H0 := s.heap) (va_runI (As := []) (rest := [.ref s.heap.size, .ref r0]) ⟨hx, hb, hml, hown, hts⟩ (uX6_init l dC dI ca base B hB hAp hB8 hB101 hB102 hB132 hB133 G0 H_1 s.heap.size LC LS) (cwI 0 hts (jgW (jWr_5 _ (List.mem_of_getElem? (i := 6) rfl))) rfl rfl rfl (htw (.initialized RX6) (jWr_4 _ (List.mem_of_getElem? (i := 10) rfl))) (htw (.methodLink RX5 11 yX6_init) (jWr_5 _ (List.mem_of_getElem? (i := 4) rfl))) (htw (.instanceMethod yX6_init) (jWr_5 _ (List.mem_of_getElem? (i := 5) rfl))) rfl (by decide +kernel) ⟨by rw [← hR]; exact Nat.le_of_ble_eq_true rfl, by rw [← hR]; exact Nat.le_of_ble_eq_true rfl⟩) ⟨fun a U g mk q => by obtain ⟨q0, q1, q2, qK, q10, q11, q12, q13, q14⟩ := q; exact ⟨q0, q1, q2, jG.calling g mk a qK, q10, q11, q12, q13, q14⟩, fun U hU hW => ⟨rfl, hU, hh_1.2.1, hG.step hW hU hh_1.1, hraw_1, hnr_1, hbr_1, jP.nil, (by omega), (by omega), trivial⟩⟩ rfl rfl hl.1 rfl (lv_room (Nat.le_of_ble_eq_true rfl)) dX5_init_9 ⟨by rw [hRc]; omega, by rw [hRs]; omega⟩) hh_1.1 (fun q _ h => h) (fun q h => h) (fun u_6 t_6 H_6 locs_6 ht_6 hvm_6 hr_7 hb_6 hz_6 hk_6 hS_6 => ?_)
  rw [ht_6] at hb_6
  obtain ⟨G_6, rfl⟩ : ∃ z, z = u_6 := ⟨_, rfl⟩
  try simp only at hb_6
  obtain ⟨⟨hb_61, hb_62, hb_63, hb_64, hb_65, hb_66⟩, hN_6, hgc_6, hbX_6⟩ := hb_6
  have hM_6 := hN_6
  have hN_6 : (jNk [0, 1, 2, 3, 4, 5, 6, 9, 10, 13, 14, 15, 16]) G0 G_6 := hN_6.sub (by decide)
  have hh_6 : jSt (dC, dI) B base G0 G_6 EX5_init s.heap ((0 + 1) + (4)) ((0 + 4) + (32903)) [] [] [(jFs11, jSef dC dI G0)] H_6 locs_6 := (hh_1.callG hb_61 hb_62 hb_63 hb_64 hb_65 hS_6 rfl (L1 := []) [] rfl rfl (M1 := []) [] rfl rfl (I1 := [(jFs11, jSef dC dI G0)]) [0] rfl rfl).more hb_66
  have hNn_6 : (jNk [0, 1, 2, 3, 4, 5, 6, 9, 10, 13, 14, 15, 16]) G0 G_6 := (jNk.rf).tr hN_6
  have hd_8 := jSef.grow (hh_6.iv 0 rfl) hb_62 hM_6 (by decide)
  have hh_9 := hh_6.sub (L1 := []) [] rfl (M1 := []) [] rfl (I1 := []) [] rfl
  clear hh_6
  have hh_10 := hh_9.addI (jSef.ie hd_8)
  clear hh_9
  try simp only at hr_7
  have hkp_11 := hkp_3.in hbX_6 hsy_1
  have hraw_12x := hbX_6.ke hraw_4.lt hne_5 hraw_4n
  have hraw_12 := hraw_4.kept hraw_12x.1
  refine j7_putRF hx hb hown hK hh_10 hB hAp hraw_12 hraw_12x.2 hbr0 (C := RX5) (T := TX5) (N := 11) rfl (i := 0) (by decide) (Nat.le_of_ble_eq_true rfl) hly_7_0 rfl hin2 rfl hlk_12 (ty := (.object "ProofServer$Names")) (v := .ref s.heap.size) (by decide +kernel) rfl rfl dX5_init_12 (fun H_13 locs_13 hraw_13 hr_13 hh_13 => ?_)
  have hraw_13 : va_at (dC, dI) vwCl (r0, .inr (7, [.ref s.heap.size, .null, .null, .null, .null, .null, .null, .null, .null, .null, .int 0])) H_13 := hraw_13
  have hkp_14 := hkp_11.put hr_13
  clear hh_10
  refine lv_aload_n hx hb dX5_init_15 rfl (lv_at hl 0 rfl) ?_
  have hsz_15 := hh_13.2.2.2.2.2.1
  have htt_15 := hh_13.2.2.2.2.2.2.1
  refine j7_newo (k := 12) (C := RX10) (T := TX10) (N := 11) (fs := [.null, .null, .null, .int 0, .int 0, .int 0, .null, .int 0, .int 0, .null, .int 0]) hx hb htw jWc_wsX100 (fun k => ([(.object "ProofServer$Names"), (.array .int), (.array .int), .int, .int, .int, (.array .int), .int, .int, (.array .int), .int] : List FieldType).getD k .int) (by decide +kernel) hown (htw (.classLink RX5 18 RX10) (jWr_4 _ (List.mem_of_getElem? (i := 12) rfl))) (htw (.instantiable RX10 11) (jWr_4 _ (List.mem_of_getElem? (i := 13) rfl))) (htw (.initialized RX10) (jWr_4 _ (List.mem_of_getElem? (i := 14) rfl))) hK rfl (fun j hj => by rcases (by omega : j = 0 ∨ j = 1 ∨ j = 2 ∨ j = 3 ∨ j = 4 ∨ j = 5 ∨ j = 6 ∨ j = 7 ∨ j = 8 ∨ j = 9 ∨ j = 10) with rfl | rfl | rfl | rfl | rfl | rfl | rfl | rfl | rfl | rfl | rfl <;> rfl) hh_13 hB (by rw [hRc]; omega) (by rw [hRs]; omega) dX5_init_16 (fun H_15 hraw_15 hfr_15 hnr_15 hh_15 => ?_)
  have hlt_16 := hraw_13.lt
  have hke_15 : jKe G_6 G_6 H_13 H_15 := jKe.raw hfr_15
  have hbr_15 : base ≤ H_13.size := Nat.le_trans hbs hh_13.1.1
  have hsy_15 : s.heap.size ≤ H_13.size := hh_13.1.1
  clear hh_13
  have hkp_17 := hkp_14.tr hke_15
  have hraw_18n := hke_15.nr hraw_13.lt hraw_12x.2
  have hraw_18 := hraw_13.kept (hke_15.1 _ hraw_13.lt)
  have hne_19 : r0 ≠ H_13.size := Nat.ne_of_lt hlt_16
  refine lv_dup hx hb dX5_init_19 rfl ?_
  refine lv_aload_n hx hb dX5_init_20 rfl (lv_at hl 0 rfl) ?_
  refine j7_read hx hb hown hK (C := RX5) (T := TX5) (N := 11) rfl hly_7_0 hlk_12 (jf.raw (C := RX5) (T := TX5) (N := 11) rfl hraw_18 (i := 0) (by decide)) dX5_init_21 ?_
  have hg_20 := (jLe.rf) _ _ hgc_6
  have hsz_21 := hh_15.2.2.2.2.2.1
  have htt_21 := hh_15.2.2.2.2.2.2.1
  refine W.room (fun hrc_21 hrs_21 => ?_)
  refine va_callv (A0 := jA base) (H0 := s.heap) (va_runI (As := [.ref s.heap.size]) (rest := [.ref H_13.size, .ref r0]) ⟨hx, hb, hml, hown, hts⟩ (uX10_init l dC dI ca base B hB hAp hB8 hB12 hB101 hB280 hB292 hB293 G_6 H_15 H_13.size s.heap.size LC LS) (cwI 1 hts (jgW (jWr_8 _ (List.mem_of_getElem? (i := 6) rfl))) rfl rfl rfl (htw (.initialized RX10) (jWr_4 _ (List.mem_of_getElem? (i := 14) rfl))) (htw (.methodLink RX5 20 yX10_init) (jWr_8 _ (List.mem_of_getElem? (i := 4) rfl))) (htw (.instanceMethod yX10_init) (jWr_8 _ (List.mem_of_getElem? (i := 5) rfl))) rfl (by decide +kernel) ⟨by rw [← hR]; exact Nat.le_of_ble_eq_true rfl, by rw [← hR]; exact Nat.le_of_ble_eq_true rfl⟩) ⟨fun a U g mk q => by obtain ⟨q0, q1, q2, qK, q10, q11, q12, q13, q14, q15⟩ := q; exact ⟨q0, q1, q2, jG.calling g mk a qK, q10, q11, q12, q13, q14, q15⟩, fun U hU hW => ⟨rfl, hU, hh_15.2.1, hG.step hW hU hh_15.1, hg_20, hraw_15, hnr_15, hbr_15, jP.nil, (by omega), (by omega), trivial⟩⟩ rfl rfl hl.1 rfl (lv_room (Nat.le_of_ble_eq_true rfl)) dX5_init_24 ⟨by rw [hRc]; omega, by rw [hRs]; omega⟩) hh_15.1 (fun q _ h => h) (fun q h => h) (fun u_21 t_21 H_21 locs_21 ht_21 hvm_21 hr_22 hb_21 hz_21 hk_21 hS_21 => ?_)
  rw [ht_21] at hb_21
  obtain ⟨G_21, rfl⟩ : ∃ z, z = u_21 := ⟨_, rfl⟩
  try simp only at hb_21
  obtain ⟨⟨hb_211, hb_212, hb_213, hb_214, hb_215, hb_216⟩, hN_21, hgc_21, hbX_21⟩ := hb_21
  have hM_21 := hN_21
  have hN_21 : (jNk [0, 1, 2, 3, 4, 5, 6, 9, 10, 13, 14, 15, 16]) G_6 G_21 := hN_21.sub (by decide)
  have hh_21 : jSt (dC, dI) B base G0 G_21 EX5_init s.heap ((((0 + 1) + (4)) + 1) + (4)) ((((0 + 4) + (32903)) + 11) + (6003)) [] [] [(jFs11, jSef dC dI G_6)] H_21 locs_21 := (hh_15.callG hb_211 hb_212 hb_213 hb_214 hb_215 hS_21 rfl (L1 := []) [] rfl rfl (M1 := []) [] rfl rfl (I1 := [(jFs11, jSef dC dI G_6)]) [0] rfl rfl).more hb_216
  have hNn_21 : (jNk [0, 1, 2, 3, 4, 5, 6, 9, 10, 13, 14, 15, 16]) G0 G_21 := (hNn_6).tr hN_21
  have hd_23 := jSef.grow (hh_21.iv 0 rfl) hb_212 hM_21 (by decide)
  have hh_24 := hh_21.sub (L1 := []) [] rfl (M1 := []) [] rfl (I1 := []) [] rfl
  clear hh_21
  have hh_25 := hh_24.addI (jSef.ie hd_23)
  clear hh_24
  try simp only at hr_22
  have hkp_26 := hkp_17.in hbX_21 hsy_15
  have hraw_27x := hbX_21.ke hraw_18.lt hne_19 hraw_18n
  have hraw_27 := hraw_18.kept hraw_27x.1
  refine j7_putRF hx hb hown hK hh_25 hB hAp hraw_27 hraw_27x.2 hbr0 (C := RX5) (T := TX5) (N := 11) rfl (i := 1) (by decide) (Nat.le_of_ble_eq_true rfl) hly_7_1 rfl hin2 rfl hlk_23 (ty := (.object "ProofServer$Syntax")) (v := .ref H_13.size) (by decide +kernel) rfl rfl dX5_init_27 (fun H_28 locs_28 hraw_28 hr_28 hh_28 => ?_)
  have hraw_28 : va_at (dC, dI) vwCl (r0, .inr (7, [.ref s.heap.size, .ref H_13.size, .null, .null, .null, .null, .null, .null, .null, .null, .int 0])) H_28 := hraw_28
  have hkp_29 := hkp_26.put hr_28
  clear hh_25
  refine lv_aload_n hx hb dX5_init_30 rfl (lv_at hl 0 rfl) ?_
  have hsz_30 := hh_28.2.2.2.2.2.1
  have htt_30 := hh_28.2.2.2.2.2.2.1
  refine j7_newo (k := 11) (C := RX9) (T := TX9) (N := 9) (fs := [.null, .null, .int 0, .null, .null, .null, .int 0, .null, .null]) hx hb htw jWc_wsX90 (fun k => ([(.object "ProofServer$State"), (.array .int), .int, (.array .int), (.array .int), (.array (.array .int)), .int, (.array .int), (.array (.object "ProofServer$Goal"))] : List FieldType).getD k .int) (by decide +kernel) hown (htw (.classLink RX5 27 RX9) (jWr_4 _ (List.mem_of_getElem? (i := 16) rfl))) (htw (.instantiable RX9 9) (jWr_4 _ (List.mem_of_getElem? (i := 17) rfl))) (htw (.initialized RX9) (jWr_4 _ (List.mem_of_getElem? (i := 18) rfl))) hK rfl (fun j hj => by rcases (by omega : j = 0 ∨ j = 1 ∨ j = 2 ∨ j = 3 ∨ j = 4 ∨ j = 5 ∨ j = 6 ∨ j = 7 ∨ j = 8) with rfl | rfl | rfl | rfl | rfl | rfl | rfl | rfl | rfl <;> rfl) hh_28 hB (by rw [hRc]; omega) (by rw [hRs]; omega) dX5_init_31 (fun H_30 hraw_30 hfr_30 hnr_30 hh_30 => ?_)
  have hlt_31 := hraw_28.lt
  have hke_30 : jKe G_21 G_21 H_28 H_30 := jKe.raw hfr_30
  have hbr_30 : base ≤ H_28.size := Nat.le_trans hbs hh_28.1.1
  have hsy_30 : s.heap.size ≤ H_28.size := hh_28.1.1
  clear hh_28
  have hkp_32 := hkp_29.tr hke_30
  have hraw_33n := hke_30.nr hraw_28.lt hraw_27x.2
  have hraw_33 := hraw_28.kept (hke_30.1 _ hraw_28.lt)
  have hne_34 : r0 ≠ H_28.size := Nat.ne_of_lt hlt_31
  refine lv_dup hx hb dX5_init_34 rfl ?_
  have hsz_35 := hh_30.2.2.2.2.2.1
  have htt_35 := hh_30.2.2.2.2.2.2.1
  refine W.room (fun hrc_35 hrs_35 => ?_)
  refine va_callv (A0 := jA base) (H0 := s.heap) (va_runI (As := []) (rest := [.ref H_28.size, .ref r0]) ⟨hx, hb, hml, hown, hts⟩ (uX9_init l dC dI ca base B hB hAp hB5 hB11 hB101 hB214 hB280 hB313 G_21 H_30 H_28.size LC LS) (cwI 0 hts (jgW (jWr_8 _ (List.mem_of_getElem? (i := 15) rfl))) rfl rfl rfl (htw (.initialized RX9) (jWr_4 _ (List.mem_of_getElem? (i := 18) rfl))) (htw (.methodLink RX5 29 yX9_init) (jWr_8 _ (List.mem_of_getElem? (i := 13) rfl))) (htw (.instanceMethod yX9_init) (jWr_8 _ (List.mem_of_getElem? (i := 14) rfl))) rfl (by decide +kernel) ⟨by rw [← hR]; exact Nat.le_of_ble_eq_true rfl, by rw [← hR]; exact Nat.le_of_ble_eq_true rfl⟩) ⟨fun a U g mk q => by obtain ⟨q0, q1, q2, qK, q10, q11, q12, q13, q14, q15, q16, q17, q18⟩ := q; exact ⟨q0, q1, q2, jG.calling g mk a qK, (va_K.moved (Vm.Alike.refl U.vm) q10), (jK5.moved (Vm.Alike.refl U.vm) q11), (jK6.moved (Vm.Alike.refl U.vm) q12), q13, q14, q15, q16, q17, q18⟩, fun U hU hW => ⟨rfl, hU, hh_30.2.1, hG.step hW hU hh_30.1, va_K.moved hW.alike hK2, jK5.moved hW.alike hK5, jK6.moved hW.alike hK6, hraw_30, hnr_30, hbr_30, jP.nil, (hh_30.2.2.2.2.2.2.2.2.sub (L1 := [(jFs11, jSef dC dI G_21)]) [0] rfl), (by omega), (by omega), trivial⟩⟩ rfl rfl hl.1 rfl (lv_room (Nat.le_of_ble_eq_true rfl)) dX5_init_35 ⟨by rw [hRc]; omega, by rw [hRs]; omega⟩) hh_30.1 (fun q _ h => h) (fun q h => h) (fun u_35 t_35 H_35 locs_35 ht_35 hvm_35 hr_36 hb_35 hz_35 hk_35 hS_35 => ?_)
  rw [ht_35] at hb_35
  obtain ⟨G_35, rfl⟩ : ∃ z, z = u_35 := ⟨_, rfl⟩
  try simp only at hb_35
  obtain ⟨⟨hb_351, hb_352, hb_353, hb_354, hb_355, hb_356⟩, hN_35, hgc_35, hbX_35, hbE_35⟩ := hb_35
  have hN_35 : (jNk [0, 1, 2, 3, 4, 5, 6, 9, 10, 13, 14, 15, 16]) G_21 G_35 := hN_35.sub (by decide)
  have hh_35 : jSt (dC, dI) B base G0 G_35 EX5_init s.heap ((((((0 + 1) + (4)) + 1) + (4)) + 1) + (6)) ((((((0 + 4) + (32903)) + 11) + (6003)) + 9) + (0)) [] [] [] H_35 locs_35 := (hh_30.callG hb_351 hb_352 hb_353 hb_354 hb_355 hS_35 rfl (L1 := []) [] rfl rfl (M1 := []) [] rfl rfl (I1 := []) [] rfl rfl).more hb_356
  have hNn_35 : (jNk [0, 1, 2, 3, 4, 5, 6, 9, 10, 13, 14, 15, 16]) G0 G_35 := (hNn_21).tr hN_35
  have hh_37 := hh_35.addIs hbE_35
  try simp only at hr_36
  have hkp_38 := hkp_32.in hbX_35 hsy_30
  have hraw_39x := hbX_35.ke hraw_33.lt hne_34 hraw_33n
  have hraw_39 := hraw_33.kept hraw_39x.1
  refine j7_putRF hx hb hown hK hh_37 hB hAp hraw_39 hraw_39x.2 hbr0 (C := RX5) (T := TX5) (N := 11) rfl (i := 2) (by decide) (Nat.le_of_ble_eq_true rfl) hly_7_2 rfl hin2 rfl hlk_30 (ty := (.object "ProofServer$State")) (v := .ref H_28.size) (by decide +kernel) rfl rfl dX5_init_38 (fun H_40 locs_40 hraw_40 hr_40 hh_40 => ?_)
  have hraw_40 : va_at (dC, dI) vwCl (r0, .inr (7, [.ref s.heap.size, .ref H_13.size, .ref H_28.size, .null, .null, .null, .null, .null, .null, .null, .int 0])) H_40 := hraw_40
  have hkp_41 := hkp_38.put hr_40
  clear hh_37
  refine lv_aload_n hx hb dX5_init_41 rfl (lv_at hl 0 rfl) ?_
  refine lv_bipush (v := 13) hx hb dX5_init_42 (by decide) ?_
  have hsz_42 := hh_40.2.2.2.2.2.1
  have htt_42 := hh_40.2.2.2.2.2.2.1
  refine j7_newiK hx hb hK hh_40 hB (atype := .int) (ty := .int) (htw (.arrayClass .int) (jWr_3 _ (List.mem_of_getElem? (i := 20) rfl))) rfl rfl (fun _ h => h) hB101 1 rfl (by decide) (by decide) hbs (x := 13) (by decide) (by omega) (fun j => by first | trivial | decide | rfl | exact Or.inl rfl | (refine ⟨?_, ?_⟩ <;> decide)) (by rw [hRc]; omega) (by rw [hRs]; omega) dX5_init_44 (fun H_42 hfr_42 hh_42 => ?_)
  have hh_42 : jSt (dC, dI) B base G0 (va_up G_35 H_40.size (some (101, 13))) EX5_init s.heap (((((((0 + 1) + (4)) + 1) + (4)) + 1) + (6)) + 1) (((((((0 + 4) + (32903)) + 11) + (6003)) + 9) + (0)) + 13) [] [] [(jFs11, jSef dC dI G_35)] H_42 locs_40 := hh_42
  have hM_42 : jNk [11] G_35 (va_up G_35 H_40.size (some (101, 13))) := jNk.new (by decide)
  have hN_42 : (jNk [0, 1, 2, 3, 4, 5, 6, 9, 10, 13, 14, 15, 16]) G_35 (va_up G_35 H_40.size (some (101, 13))) := jNk.new (by decide)
  have hgn_42 : (va_up G_35 H_40.size (some (101, 13))) H_40.size = some (101, 13) := jUp_self
  have hle_42 : jLe G_35 (va_up G_35 H_40.size (some (101, 13))) := jLe.new hh_40.2.1.fresh
  have hke_42 : jKe G_35 (va_up G_35 H_40.size (some (101, 13))) H_40 H_42 := jKe.new hfr_42
  have hsy_42 : s.heap.size ≤ H_40.size := hh_40.1.1
  generalize (va_up G_35 H_40.size (some (101, 13))) = G_42 at hN_42 hgn_42 hle_42 hke_42 hh_42 hM_42
  clear hh_40
  have hNn_42 : (jNk [0, 1, 2, 3, 4, 5, 6, 9, 10, 13, 14, 15, 16]) G0 G_42 := (hNn_35).tr hN_42
  have hkp_43 := hkp_41.tr hke_42
  have hraw_44n := hke_42.nr hraw_40.lt hraw_39x.2
  have hraw_44 := hraw_40.kept (hke_42.1 _ hraw_40.lt)
  have hd_45 := jSef.grow (hh_42.iv 0 rfl) hle_42 hM_42 (by decide)
  have hh_46 := hh_42.sub (L1 := []) [] rfl (M1 := []) [] rfl (I1 := []) [] rfl
  clear hh_42
  have hh_47 := hh_46.addI (jSef.ie hd_45)
  clear hh_46
  refine j7_putRF hx hb hown hK hh_47 hB hAp hraw_44 hraw_44n hbr0 (C := RX5) (T := TX5) (N := 11) rfl (i := 3) (by decide) (Nat.le_of_ble_eq_true rfl) hly_7_3 rfl hin2 rfl hlk_34 (ty := (.array .int)) (v := .ref H_40.size) (by decide +kernel) rfl rfl dX5_init_46 (fun H_48 locs_48 hraw_48 hr_48 hh_48 => ?_)
  have hraw_48 : va_at (dC, dI) vwCl (r0, .inr (7, [.ref s.heap.size, .ref H_13.size, .ref H_28.size, .ref H_40.size, .null, .null, .null, .null, .null, .null, .int 0])) H_48 := hraw_48
  have hkp_49 := hkp_43.put hr_48
  clear hh_47
  refine lv_aload_n hx hb dX5_init_49 rfl (lv_at hl 0 rfl) ?_
  refine lv_bipush (v := 13) hx hb dX5_init_50 (by decide) ?_
  have hsz_50 := hh_48.2.2.2.2.2.1
  have htt_50 := hh_48.2.2.2.2.2.2.1
  refine j7_newiK hx hb hK hh_48 hB (atype := .int) (ty := .int) (htw (.arrayClass .int) (jWr_3 _ (List.mem_of_getElem? (i := 20) rfl))) rfl rfl (fun _ h => h) hB101 1 rfl (by decide) (by decide) hbs (x := 13) (by decide) (by omega) (fun j => by first | trivial | decide | rfl | exact Or.inl rfl | (refine ⟨?_, ?_⟩ <;> decide)) (by rw [hRc]; omega) (by rw [hRs]; omega) dX5_init_52 (fun H_50 hfr_50 hh_50 => ?_)
  have hh_50 : jSt (dC, dI) B base G0 (va_up G_42 H_48.size (some (101, 13))) EX5_init s.heap ((((((((0 + 1) + (4)) + 1) + (4)) + 1) + (6)) + 1) + 1) ((((((((0 + 4) + (32903)) + 11) + (6003)) + 9) + (0)) + 13) + 13) [] [] [(jFs11, jSef dC dI G_42)] H_50 locs_48 := hh_50
  have hM_50 : jNk [11] G_42 (va_up G_42 H_48.size (some (101, 13))) := jNk.new (by decide)
  have hN_50 : (jNk [0, 1, 2, 3, 4, 5, 6, 9, 10, 13, 14, 15, 16]) G_42 (va_up G_42 H_48.size (some (101, 13))) := jNk.new (by decide)
  have hgn_50 : (va_up G_42 H_48.size (some (101, 13))) H_48.size = some (101, 13) := jUp_self
  have hle_50 : jLe G_42 (va_up G_42 H_48.size (some (101, 13))) := jLe.new hh_48.2.1.fresh
  have hke_50 : jKe G_42 (va_up G_42 H_48.size (some (101, 13))) H_48 H_50 := jKe.new hfr_50
  have hsy_50 : s.heap.size ≤ H_48.size := hh_48.1.1
  generalize (va_up G_42 H_48.size (some (101, 13))) = G_50 at hN_50 hgn_50 hle_50 hke_50 hh_50 hM_50
  clear hh_48
  have hNn_50 : (jNk [0, 1, 2, 3, 4, 5, 6, 9, 10, 13, 14, 15, 16]) G0 G_50 := (hNn_42).tr hN_50
  have hkp_51 := hkp_49.tr hke_50
  have hraw_52n := hke_50.nr hraw_48.lt hraw_44n
  have hraw_52 := hraw_48.kept (hke_50.1 _ hraw_48.lt)
  have hd_53 := jSef.grow (hh_50.iv 0 rfl) hle_50 hM_50 (by decide)
  have hh_54 := hh_50.sub (L1 := []) [] rfl (M1 := []) [] rfl (I1 := []) [] rfl
  clear hh_50
  have hh_55 := hh_54.addI (jSef.ie hd_53)
  clear hh_54
  refine j7_putRF hx hb hown hK hh_55 hB hAp hraw_52 hraw_52n hbr0 (C := RX5) (T := TX5) (N := 11) rfl (i := 4) (by decide) (Nat.le_of_ble_eq_true rfl) hly_7_4 rfl hin2 rfl hlk_38 (ty := (.array .int)) (v := .ref H_48.size) (by decide +kernel) rfl rfl dX5_init_54 (fun H_56 locs_56 hraw_56 hr_56 hh_56 => ?_)
  have hraw_56 : va_at (dC, dI) vwCl (r0, .inr (7, [.ref s.heap.size, .ref H_13.size, .ref H_28.size, .ref H_40.size, .ref H_48.size, .null, .null, .null, .null, .null, .int 0])) H_56 := hraw_56
  have hkp_57 := hkp_51.put hr_56
  clear hh_55
  refine lv_aload_n hx hb dX5_init_57 rfl (lv_at hl 0 rfl) ?_
  refine lv_iconst (v := 1) hx hb dX5_init_58 (by decide) ?_
  have hsz_58 := hh_56.2.2.2.2.2.1
  have htt_58 := hh_56.2.2.2.2.2.2.1
  refine j7_newiK hx hb hK hh_56 hB (atype := .int) (ty := .int) (htw (.arrayClass .int) (jWr_3 _ (List.mem_of_getElem? (i := 20) rfl))) rfl rfl (fun _ h => h) hB280 1 rfl (by decide) (by decide) hbs (x := 1) (by decide) (by omega) (fun j => by first | trivial | decide | rfl | exact Or.inl rfl | (refine ⟨?_, ?_⟩ <;> decide)) (by rw [hRc]; omega) (by rw [hRs]; omega) dX5_init_59 (fun H_58 hfr_58 hh_58 => ?_)
  have hh_58 : jSt (dC, dI) B base G0 (va_up G_50 H_56.size (some (280, 1))) EX5_init s.heap (((((((((0 + 1) + (4)) + 1) + (4)) + 1) + (6)) + 1) + 1) + 1) (((((((((0 + 4) + (32903)) + 11) + (6003)) + 9) + (0)) + 13) + 13) + 1) [] [] [(jFs11, jSef dC dI G_50)] H_58 locs_56 := hh_58
  have hM_58 : jNk [11] G_50 (va_up G_50 H_56.size (some (280, 1))) := jNk.new (by decide)
  have hN_58 : (jNk [0, 1, 2, 3, 4, 5, 6, 9, 10, 13, 14, 15, 16]) G_50 (va_up G_50 H_56.size (some (280, 1))) := jNk.new (by decide)
  have hgn_58 : (va_up G_50 H_56.size (some (280, 1))) H_56.size = some (280, 1) := jUp_self
  have hle_58 : jLe G_50 (va_up G_50 H_56.size (some (280, 1))) := jLe.new hh_56.2.1.fresh
  have hke_58 : jKe G_50 (va_up G_50 H_56.size (some (280, 1))) H_56 H_58 := jKe.new hfr_58
  have hsy_58 : s.heap.size ≤ H_56.size := hh_56.1.1
  generalize (va_up G_50 H_56.size (some (280, 1))) = G_58 at hN_58 hgn_58 hle_58 hke_58 hh_58 hM_58
  clear hh_56
  have hNn_58 : (jNk [0, 1, 2, 3, 4, 5, 6, 9, 10, 13, 14, 15, 16]) G0 G_58 := (hNn_50).tr hN_58
  have hkp_59 := hkp_57.tr hke_58
  have hraw_60n := hke_58.nr hraw_56.lt hraw_52n
  have hraw_60 := hraw_56.kept (hke_58.1 _ hraw_56.lt)
  have hd_61 := jSef.grow (hh_58.iv 0 rfl) hle_58 hM_58 (by decide)
  have hh_62 := hh_58.sub (L1 := []) [] rfl (M1 := []) [] rfl (I1 := []) [] rfl
  clear hh_58
  have hh_63 := hh_62.addI (jSef.ie hd_61)
  clear hh_62
  refine j7_putR hx hb hown hK hh_63 hB hAp hraw_60 hraw_60n hbr0 (C := RX5) (T := TX5) (N := 11) rfl (i := 5) (by decide) (Nat.le_of_ble_eq_true rfl) hly_7_5 rfl hlk_41 (ty := (.array .int)) (v := .ref H_56.size) (by decide +kernel) rfl rfl dX5_init_61 (fun H_64 locs_64 hraw_64 hr_64 hh_64 => ?_)
  have hraw_64 : va_at (dC, dI) vwCl (r0, .inr (7, [.ref s.heap.size, .ref H_13.size, .ref H_28.size, .ref H_40.size, .ref H_48.size, .ref H_56.size, .null, .null, .null, .null, .int 0])) H_64 := hraw_64
  have hkp_65 := hkp_59.put hr_64
  clear hh_63
  refine lv_aload_n hx hb dX5_init_64 rfl (lv_at hl 0 rfl) ?_
  refine lv_bipush (v := 13) hx hb dX5_init_65 (by decide) ?_
  have hsz_66 := hh_64.2.2.2.2.2.1
  have htt_66 := hh_64.2.2.2.2.2.2.1
  refine j7_newiK hx hb hK hh_64 hB (atype := .int) (ty := .int) (htw (.arrayClass .int) (jWr_3 _ (List.mem_of_getElem? (i := 20) rfl))) rfl rfl (fun _ h => h) hB290 1 rfl (by decide) (by decide) hbs (x := 13) (by decide) (by omega) (fun j => by first | trivial | decide | rfl | exact Or.inl rfl | (refine ⟨?_, ?_⟩ <;> decide)) (by rw [hRc]; omega) (by rw [hRs]; omega) dX5_init_67 (fun H_66 hfr_66 hh_66 => ?_)
  have hh_66 : jSt (dC, dI) B base G0 (va_up G_58 H_64.size (some (290, 13))) EX5_init s.heap ((((((((((0 + 1) + (4)) + 1) + (4)) + 1) + (6)) + 1) + 1) + 1) + 1) ((((((((((0 + 4) + (32903)) + 11) + (6003)) + 9) + (0)) + 13) + 13) + 1) + 13) [] [] [(jFs11, jSef dC dI G_58)] H_66 locs_64 := hh_66
  have hM_66 : jNk [11] G_58 (va_up G_58 H_64.size (some (290, 13))) := jNk.new (by decide)
  have hN_66 : (jNk [0, 1, 2, 3, 4, 5, 6, 9, 10, 13, 14, 15, 16]) G_58 (va_up G_58 H_64.size (some (290, 13))) := jNk.new (by decide)
  have hgn_66 : (va_up G_58 H_64.size (some (290, 13))) H_64.size = some (290, 13) := jUp_self
  have hle_66 : jLe G_58 (va_up G_58 H_64.size (some (290, 13))) := jLe.new hh_64.2.1.fresh
  have hke_66 : jKe G_58 (va_up G_58 H_64.size (some (290, 13))) H_64 H_66 := jKe.new hfr_66
  have hsy_66 : s.heap.size ≤ H_64.size := hh_64.1.1
  generalize (va_up G_58 H_64.size (some (290, 13))) = G_66 at hN_66 hgn_66 hle_66 hke_66 hh_66 hM_66
  clear hh_64
  have hNn_66 : (jNk [0, 1, 2, 3, 4, 5, 6, 9, 10, 13, 14, 15, 16]) G0 G_66 := (hNn_58).tr hN_66
  have hkp_67 := hkp_65.tr hke_66
  have hraw_68n := hke_66.nr hraw_64.lt hraw_60n
  have hraw_68 := hraw_64.kept (hke_66.1 _ hraw_64.lt)
  have hd_69 := jSef.grow (hh_66.iv 0 rfl) hle_66 hM_66 (by decide)
  have hh_70 := hh_66.sub (L1 := []) [] rfl (M1 := []) [] rfl (I1 := []) [] rfl
  clear hh_66
  have hh_71 := hh_70.addI (jSef.ie hd_69)
  clear hh_70
  refine j7_putRF hx hb hown hK hh_71 hB hAp hraw_68 hraw_68n hbr0 (C := RX5) (T := TX5) (N := 11) rfl (i := 6) (by decide) (Nat.le_of_ble_eq_true rfl) hly_7_6 rfl hin2 rfl hlk_44 (ty := (.array .int)) (v := .ref H_64.size) (by decide +kernel) rfl rfl dX5_init_69 (fun H_72 locs_72 hraw_72 hr_72 hh_72 => ?_)
  have hraw_72 : va_at (dC, dI) vwCl (r0, .inr (7, [.ref s.heap.size, .ref H_13.size, .ref H_28.size, .ref H_40.size, .ref H_48.size, .ref H_56.size, .ref H_64.size, .null, .null, .null, .int 0])) H_72 := hraw_72
  have hkp_73 := hkp_67.put hr_72
  clear hh_71
  refine lv_aload_n hx hb dX5_init_72 rfl (lv_at hl 0 rfl) ?_
  refine lv_bipush (v := 13) hx hb dX5_init_73 (by decide) ?_
  have hsz_74 := hh_72.2.2.2.2.2.1
  have htt_74 := hh_72.2.2.2.2.2.2.1
  refine j7_newiK hx hb hK hh_72 hB (atype := .int) (ty := .int) (htw (.arrayClass .int) (jWr_3 _ (List.mem_of_getElem? (i := 20) rfl))) rfl rfl (fun _ h => h) hB291 1 rfl (by decide) (by decide) hbs (x := 13) (by decide) (by omega) (fun j => by first | trivial | decide | rfl | exact Or.inl rfl | (refine ⟨?_, ?_⟩ <;> decide)) (by rw [hRc]; omega) (by rw [hRs]; omega) dX5_init_75 (fun H_74 hfr_74 hh_74 => ?_)
  have hh_74 : jSt (dC, dI) B base G0 (va_up G_66 H_72.size (some (291, 13))) EX5_init s.heap (((((((((((0 + 1) + (4)) + 1) + (4)) + 1) + (6)) + 1) + 1) + 1) + 1) + 1) (((((((((((0 + 4) + (32903)) + 11) + (6003)) + 9) + (0)) + 13) + 13) + 1) + 13) + 13) [] [] [(jFs11, jSef dC dI G_66)] H_74 locs_72 := hh_74
  have hM_74 : jNk [11] G_66 (va_up G_66 H_72.size (some (291, 13))) := jNk.new (by decide)
  have hN_74 : (jNk [0, 1, 2, 3, 4, 5, 6, 9, 10, 13, 14, 15, 16]) G_66 (va_up G_66 H_72.size (some (291, 13))) := jNk.new (by decide)
  have hgn_74 : (va_up G_66 H_72.size (some (291, 13))) H_72.size = some (291, 13) := jUp_self
  have hle_74 : jLe G_66 (va_up G_66 H_72.size (some (291, 13))) := jLe.new hh_72.2.1.fresh
  have hke_74 : jKe G_66 (va_up G_66 H_72.size (some (291, 13))) H_72 H_74 := jKe.new hfr_74
  have hsy_74 : s.heap.size ≤ H_72.size := hh_72.1.1
  generalize (va_up G_66 H_72.size (some (291, 13))) = G_74 at hN_74 hgn_74 hle_74 hke_74 hh_74 hM_74
  clear hh_72
  have hNn_74 : (jNk [0, 1, 2, 3, 4, 5, 6, 9, 10, 13, 14, 15, 16]) G0 G_74 := (hNn_66).tr hN_74
  have hkp_75 := hkp_73.tr hke_74
  have hraw_76n := hke_74.nr hraw_72.lt hraw_68n
  have hraw_76 := hraw_72.kept (hke_74.1 _ hraw_72.lt)
  have hd_77 := jSef.grow (hh_74.iv 0 rfl) hle_74 hM_74 (by decide)
  have hh_78 := hh_74.sub (L1 := []) [] rfl (M1 := []) [] rfl (I1 := []) [] rfl
  clear hh_74
  have hh_79 := hh_78.addI (jSef.ie hd_77)
  clear hh_78
  refine j7_putRF hx hb hown hK hh_79 hB hAp hraw_76 hraw_76n hbr0 (C := RX5) (T := TX5) (N := 11) rfl (i := 7) (by decide) (Nat.le_of_ble_eq_true rfl) hly_7_7 rfl hin2 rfl hlk_47 (ty := (.array .int)) (v := .ref H_72.size) (by decide +kernel) rfl rfl dX5_init_77 (fun H_80 locs_80 hraw_80 hr_80 hh_80 => ?_)
  have hraw_80 : va_at (dC, dI) vwCl (r0, .inr (7, [.ref s.heap.size, .ref H_13.size, .ref H_28.size, .ref H_40.size, .ref H_48.size, .ref H_56.size, .ref H_64.size, .ref H_72.size, .null, .null, .int 0])) H_80 := hraw_80
  have hkp_81 := hkp_75.put hr_80
  clear hh_79
  refine lv_aload_n hx hb dX5_init_80 rfl (lv_at hl 0 rfl) ?_
  refine lv_iconst (v := 1) hx hb dX5_init_81 (by decide) ?_
  have hsz_82 := hh_80.2.2.2.2.2.1
  have htt_82 := hh_80.2.2.2.2.2.2.1
  refine j7_newiK hx hb hK hh_80 hB (atype := .int) (ty := .int) (htw (.arrayClass .int) (jWr_3 _ (List.mem_of_getElem? (i := 20) rfl))) rfl rfl (fun _ h => h) hB280 1 rfl (by decide) (by decide) hbs (x := 1) (by decide) (by omega) (fun j => by first | trivial | decide | rfl | exact Or.inl rfl | (refine ⟨?_, ?_⟩ <;> decide)) (by rw [hRc]; omega) (by rw [hRs]; omega) dX5_init_82 (fun H_82 hfr_82 hh_82 => ?_)
  have hh_82 : jSt (dC, dI) B base G0 (va_up G_74 H_80.size (some (280, 1))) EX5_init s.heap ((((((((((((0 + 1) + (4)) + 1) + (4)) + 1) + (6)) + 1) + 1) + 1) + 1) + 1) + 1) ((((((((((((0 + 4) + (32903)) + 11) + (6003)) + 9) + (0)) + 13) + 13) + 1) + 13) + 13) + 1) [] [] [(jFs11, jSef dC dI G_74)] H_82 locs_80 := hh_82
  have hM_82 : jNk [11] G_74 (va_up G_74 H_80.size (some (280, 1))) := jNk.new (by decide)
  have hN_82 : (jNk [0, 1, 2, 3, 4, 5, 6, 9, 10, 13, 14, 15, 16]) G_74 (va_up G_74 H_80.size (some (280, 1))) := jNk.new (by decide)
  have hgn_82 : (va_up G_74 H_80.size (some (280, 1))) H_80.size = some (280, 1) := jUp_self
  have hle_82 : jLe G_74 (va_up G_74 H_80.size (some (280, 1))) := jLe.new hh_80.2.1.fresh
  have hke_82 : jKe G_74 (va_up G_74 H_80.size (some (280, 1))) H_80 H_82 := jKe.new hfr_82
  have hsy_82 : s.heap.size ≤ H_80.size := hh_80.1.1
  generalize (va_up G_74 H_80.size (some (280, 1))) = G_82 at hN_82 hgn_82 hle_82 hke_82 hh_82 hM_82
  clear hh_80
  have hNn_82 : (jNk [0, 1, 2, 3, 4, 5, 6, 9, 10, 13, 14, 15, 16]) G0 G_82 := (hNn_74).tr hN_82
  have hkp_83 := hkp_81.tr hke_82
  have hraw_84n := hke_82.nr hraw_80.lt hraw_76n
  have hraw_84 := hraw_80.kept (hke_82.1 _ hraw_80.lt)
  have hd_85 := jSef.grow (hh_82.iv 0 rfl) hle_82 hM_82 (by decide)
  have hh_86 := hh_82.sub (L1 := []) [] rfl (M1 := []) [] rfl (I1 := []) [] rfl
  clear hh_82
  have hh_87 := hh_86.addI (jSef.ie hd_85)
  clear hh_86
  refine j7_putRF hx hb hown hK hh_87 hB hAp hraw_84 hraw_84n hbr0 (C := RX5) (T := TX5) (N := 11) rfl (i := 8) (by decide) (Nat.le_of_ble_eq_true rfl) hly_7_8 rfl hin2 rfl hlk_50 (ty := (.array .int)) (v := .ref H_80.size) (by decide +kernel) rfl rfl dX5_init_84 (fun H_88 locs_88 hraw_88 hr_88 hh_88 => ?_)
  have hraw_88 : va_at (dC, dI) vwCl (r0, .inr (7, [.ref s.heap.size, .ref H_13.size, .ref H_28.size, .ref H_40.size, .ref H_48.size, .ref H_56.size, .ref H_64.size, .ref H_72.size, .ref H_80.size, .null, .int 0])) H_88 := hraw_88
  have hkp_89 := hkp_83.put hr_88
  clear hh_87
  refine lv_aload_n hx hb dX5_init_87 rfl (lv_at hl 0 rfl) ?_
  refine lv_bipush (v := 6) hx hb dX5_init_88 (by decide) ?_
  have hsz_90 := hh_88.2.2.2.2.2.1
  have htt_90 := hh_88.2.2.2.2.2.2.1
  have hsy_90 : s.heap.size ≤ H_88.size := hh_88.1.1
  refine j7_newqK hx hb hown (htw (.classLink RX5 53 RX3) (jWr_5 _ (List.mem_of_getElem? (i := 2) rfl))) hK6.2.2.2 hK2 hh_88 hB hB211 3 rfl (by decide) hbs (x := 6) (by decide) (by omega) (fun _ => Or.inl rfl) (by rw [hRc]; omega) (by rw [hRs]; omega) dX5_init_90 (fun H_90 hfr_90 hh_90 hqn_90 => ?_)
  have hh_90 : jSt (dC, dI) B base G0 (va_up G_82 H_88.size (some (211, 6))) EX5_init s.heap (((((((((((((0 + 1) + (4)) + 1) + (4)) + 1) + (6)) + 1) + 1) + 1) + 1) + 1) + 1) + 1) (((((((((((((0 + 4) + (32903)) + 11) + (6003)) + 9) + (0)) + 13) + 13) + 1) + 13) + 13) + 1) + 6) [] [] [(jFs11, jSef dC dI G_82)] H_90 locs_88 := hh_90
  have hM_90 : jNk [11] G_82 (va_up G_82 H_88.size (some (211, 6))) := jNk.new (by decide)
  have hN_90 : (jNk [0, 1, 2, 3, 4, 5, 6, 9, 10, 13, 14, 15, 16]) G_82 (va_up G_82 H_88.size (some (211, 6))) := jNk.new (by decide)
  have hgn_90 : (va_up G_82 H_88.size (some (211, 6))) H_88.size = some (211, 6) := jUp_self
  have hle_90 : jLe G_82 (va_up G_82 H_88.size (some (211, 6))) := jLe.new hh_88.2.1.fresh
  have hke_90 : jKe G_82 (va_up G_82 H_88.size (some (211, 6))) H_88 H_90 := jKe.new hfr_90
  have hsy_90 : s.heap.size ≤ H_88.size := hh_88.1.1
  generalize (va_up G_82 H_88.size (some (211, 6))) = G_90 at hN_90 hgn_90 hle_90 hke_90 hh_90 hM_90
  clear hh_88
  have hNn_90 : (jNk [0, 1, 2, 3, 4, 5, 6, 9, 10, 13, 14, 15, 16]) G0 G_90 := (hNn_82).tr hN_90
  have hkp_91 := hkp_89.tr hke_90
  have hraw_92n := hke_90.nr hraw_88.lt hraw_84n
  have hraw_92 := hraw_88.kept (hke_90.1 _ hraw_88.lt)
  have hd_93 := jSef.grow (hh_90.iv 0 rfl) hle_90 hM_90 (by decide)
  have hh_94 := hh_90.sub (L1 := []) [] rfl (M1 := []) [] rfl (I1 := []) [] rfl
  clear hh_90
  have hh_95 := hh_94.addI (jSef.ie hd_93)
  clear hh_94
  refine j7_putRF hx hb hown hK hh_95 hB hAp hraw_92 hraw_92n hbr0 (C := RX5) (T := TX5) (N := 11) rfl (i := 9) (by decide) (Nat.le_of_ble_eq_true rfl) hly_7_9 rfl hin2 rfl hlk_55 (ty := (.array (.object "ProofServer$Goal"))) (v := .ref H_88.size) (by decide +kernel) rfl rfl dX5_init_93 (fun H_96 locs_96 hraw_96 hr_96 hh_96 => ?_)
  have hraw_96 : va_at (dC, dI) vwCl (r0, .inr (7, [.ref s.heap.size, .ref H_13.size, .ref H_28.size, .ref H_40.size, .ref H_48.size, .ref H_56.size, .ref H_64.size, .ref H_72.size, .ref H_80.size, .ref H_88.size, .int 0])) H_96 := hraw_96
  have hkp_97 := hkp_91.put hr_96
  clear hh_95
  have hsz_98 := hh_96.2.2.2.2.2.1
  have htt_98 := hh_96.2.2.2.2.2.2.1
  refine W.room (fun hrc_98 hrs_98 => ?_)
  refine W.widen (k := LC - s.heap.size) (n := LS - jTot s.heap) (by omega) (by omega) ?_
  rw [hQ]
  have hle_99 : jLe G_90 (va_up G_90 r0 (some (7, 0))) := jLe.typ hraw_92n
  have hg_100 := (((((((((hb_212).tr hb_352).tr hle_42).tr hle_50).tr hle_58).tr hle_66).tr hle_74).tr hle_82).tr hle_90).tr hle_99 _ _ hgc_6
  have hg_101 := ((((((((hb_352).tr hle_42).tr hle_50).tr hle_58).tr hle_66).tr hle_74).tr hle_82).tr hle_90).tr hle_99 _ _ hgc_21
  have hg_102 := (((((((hle_42).tr hle_50).tr hle_58).tr hle_66).tr hle_74).tr hle_82).tr hle_90).tr hle_99 _ _ hgc_35
  have hg_103 := ((((((hle_50).tr hle_58).tr hle_66).tr hle_74).tr hle_82).tr hle_90).tr hle_99 _ _ hgn_42
  have hg_104 := (((((hle_58).tr hle_66).tr hle_74).tr hle_82).tr hle_90).tr hle_99 _ _ hgn_50
  have hg_105 := ((((hle_66).tr hle_74).tr hle_82).tr hle_90).tr hle_99 _ _ hgn_58
  have hg_106 := (((hle_74).tr hle_82).tr hle_90).tr hle_99 _ _ hgn_66
  have hg_107 := ((hle_82).tr hle_90).tr hle_99 _ _ hgn_74
  have hg_108 := (hle_90).tr hle_99 _ _ hgn_82
  have hg_109 := (jLe.rf).tr hle_99 _ _ hgn_90
  have hfa_99 : jRf (va_up G_90 r0 (some (7, 0))) 8 0 (.ref s.heap.size) ∧ jRf (va_up G_90 r0 (some (7, 0))) 12 0 (.ref H_13.size) ∧ jRf (va_up G_90 r0 (some (7, 0))) 11 0 (.ref H_28.size) ∧ jRf (va_up G_90 r0 (some (7, 0))) 101 13 (.ref H_40.size) ∧ jRf (va_up G_90 r0 (some (7, 0))) 101 13 (.ref H_48.size) ∧ jRk (va_up G_90 r0 (some (7, 0))) 280 3000 (.ref H_56.size) ∧ jRf (va_up G_90 r0 (some (7, 0))) 290 13 (.ref H_64.size) ∧ jRf (va_up G_90 r0 (some (7, 0))) 291 13 (.ref H_72.size) ∧ jRf (va_up G_90 r0 (some (7, 0))) 280 1 (.ref H_80.size) ∧ jRf (va_up G_90 r0 (some (7, 0))) 211 6 (.ref H_88.size) ∧ jI 0 1000000 (.int 0) ∧ True := ⟨⟨_, rfl, hg_100⟩, ⟨_, rfl, hg_101⟩, ⟨_, rfl, hg_102⟩, ⟨_, rfl, hg_103⟩, ⟨_, rfl, hg_104⟩, ⟨_, _, rfl, hg_105, by omega⟩, ⟨_, rfl, hg_106⟩, ⟨_, rfl, hg_107⟩, ⟨_, rfl, hg_108⟩, ⟨_, rfl, hg_109⟩, ⟨_, rfl, by omega, by omega⟩, trivial⟩
  have hh_99 := hh_96.typ (k := 7) (n := 0) hB hraw_92n hbr0 hraw_96.lt (jOb.of (C := RX5) (T := TX5) (N := 11) (F := F7) hB7 rfl hraw_96 (show jFx (F7 0 (va_up G_90 r0 (some (7, 0)))) [.ref s.heap.size, .ref H_13.size, .ref H_28.size, .ref H_40.size, .ref H_48.size, .ref H_56.size, .ref H_64.size, .ref H_72.size, .ref H_80.size, .ref H_88.size, .int 0] from hfa_99))
  have hgn_99 : (va_up G_90 r0 (some (7, 0))) r0 = some (7, 0) := jUp_self
  have hN_99 : (jNk [0, 1, 2, 3, 4, 5, 6, 9, 10, 13, 14, 15, 16]) G_90 (va_up G_90 r0 (some (7, 0))) := jNk.new (by decide)
  have hNn_99 : (jNk [0, 1, 2, 3, 4, 5, 6, 9, 10, 13, 14, 15, 16]) G0 (va_up G_90 r0 (some (7, 0))) := (hNn_90).tr hN_99
  have hkp_110 := hkp_97.typ (t := some (7, 0))
  have hM_99 : jNk [11] G_90 (va_up G_90 r0 (some (7, 0))) := jNk.new (by decide)
  have hd_111 := jSef.grow (hh_99.iv 0 rfl) hle_99 hM_99 (by decide)
  have hh_112 := hh_99.sub (L1 := []) [] rfl (M1 := []) [] rfl (I1 := []) [] rfl
  clear hh_99
  have hh_113 := hh_112.addI (jSef.ie hd_111)
  clear hh_112
  exact W.vret hx hb hr (fun t ht hW => ⟨⟨(va_up G_90 r0 (some (7, 0))), rfl, trivial, ⟨hh_113.ra (by first | omega | (simp only; omega)) (by first | omega | (simp only; omega)) (M1 := []) [] rfl ht, hNn_99, hgn_99, by rw [ht]; exact hkp_110, by rw [ht]; exact hh_113.2.2.2.2.2.2.2.2.sub (L1 := [(jFs11, jSef dC dI (va_up G_90 r0 (some (7, 0))))]) [0] rfl⟩⟩, by rw [ht]; try exact hh_113.1.1, fun q h9 hq => by rw [ht]; try exact hh_113.1.2.1 q h9 hq⟩) hh_113.1.2.2 dX5_init_96
set_option maxHeartbeats 4000000 in
set_option maxRecDepth 20000 in
theorem uX5_check (l : Launch) (dC : Nat → ClassId) (dI : Nat → Nat → Nat) (ca : Nat → ClassId) (base : Nat) (B : jF) (hB : jBok B) (hAp : jAp (dC, dI)) (hB5 : ∀ n G a H, B 5 n G a H ↔ jOb (dC, dI) 5 4 (F5 n G) a H) (hB7 : ∀ n G a H, B 7 n G a H ↔ jOb (dC, dI) 7 11 (F7 n G) a H) (hB8 : ∀ n G a H, B 8 n G a H ↔ jOb (dC, dI) 8 4 (F8 n G) a H) (hB11 : ∀ n G a H, B 11 n G a H ↔ jOb (dC, dI) 11 9 (F11 n G) a H) (hB12 : ∀ n G a H, B 12 n G a H ↔ jOb (dC, dI) 12 11 (F12b n G) a H) (hB101 : ∀ n G a H, B 101 n G a H ↔ jAr (dC, dI) (ca 1) (fun j z => True) n a H) (hB102 : ∀ n G a H, B 102 n G a H ↔ jAl (dC, dI) (ca 2) n a H) (hB132 : ∀ n G a H, B 132 n G a H ↔ jAr (dC, dI) (ca 1) (fun j z => 0 ≤ z.toInt ∧ z.toInt ≤ 10) n a H) (hB133 : ∀ n G a H, B 133 n G a H ↔ jAr (dC, dI) (ca 1) (fun j z => 0 ≤ z.toInt ∧ z.toInt ≤ 8192) n a H) (hB211 : ∀ n G a H, B 211 n G a H ↔ jAq (dC, dI) (ca 7) (jQh) n G a H) (hB214 : ∀ n G a H, B 214 n G a H ↔ jAq (dC, dI) (ca 7) (jQg) n G a H) (hB280 : ∀ n G a H, B 280 n G a H ↔ jAr (dC, dI) (ca 1) (fun j z => -1 ≤ z.toInt) n a H) (hB290 : ∀ n G a H, B 290 n G a H ↔ jAr (dC, dI) (ca 1) (fun j z => 0 ≤ z.toInt ∧ z.toInt ≤ 3000) n a H) (hB291 : ∀ n G a H, B 291 n G a H ↔ jAr (dC, dI) (ca 1) (fun j z => 0 ≤ z.toInt ∧ z.toInt ≤ 3000) n a H) (hB292 : ∀ n G a H, B 292 n G a H ↔ jAr (dC, dI) (ca 1) (fun j z => 0 ≤ z.toInt ∧ z.toInt ≤ 8191) n a H) (hB293 : ∀ n G a H, B 293 n G a H ↔ jAr (dC, dI) (ca 1) (fun j z => -1 ≤ z.toInt ∧ z.toInt ≤ 8191) n a H) (hB313 : ∀ n G a H, B 313 n G a H ↔ jAq (dC, dI) (ca 8) (jQk 280 80) n G a H) (hB315 : ∀ n G a H, B 315 n G a H ↔ jAqZ (dC, dI) (ca 8) n a H) (G0 : jT) (H0 : Heap) (r0 : Nat) (r1 : Nat) (r2 : Nat) (a3 : Int32) (n2 : Nat) (LC LS : Nat) : Met l yX5_check (jw yX5_check cX5_check 8 (some (.object "ProofServer$State"))) ({ frames := 70, cells := LC - H0.size, slots := LS - jTot H0, locals := 2256 }) (va_Pc [.ref r0, .ref r1, .ref r2, .int a3] (fun U => U.heap = H0 ∧ jX B base G0 [] H0 ∧ jG dC dI ca base U ∧ jK2 dC dI ca U ∧ jK5 dC dI ca U ∧ jK6 U ∧ G0 r0 = some (7, 0) ∧ G0 r1 = some (11, 0) ∧ G0 r2 = some (101, n2) ∧ jP (dC, dI) G0 H0 [] ∧ jIs (dC, dI) G0 H0 [(jFs11, jSef dC dI G0)] ∧ H0.size + 23 ≤ LC ∧ jTot H0 + 535 ≤ LS ∧ n2 ≤ 1500)) (jQx (S := jT) (fun v u => jRf u 11 0 v ∧ True) (fun u t => jRa (dC, dI) B base G0 u EX5_check H0 (23) (535) [] t.heap ∧ (jNk [0, 1, 2, 3, 4, 6, 7, 8, 9, 10, 12, 13, 14, 15, 16]) G0 u ∧ jIs (dC, dI) u t.heap [(jFs11, jSef dC dI u)]) (jA base)) (LC - H0.size) (LS - jTot H0) (jA base) := by
  refine Met.ofW (cc := cX5_check) (maxL := 8) (ret := (some (.object "ProofServer$State"))) (by decide) rfl ?_
  intro p e s m args below meth c s₁ Bd hml hv
  obtain ⟨rfl, hH0, hX, hG, hK2, hK5, hK6, hg_r0, hg_r1, hg_r2, hP0, hI0, hLC0, hLS0, hp0⟩ := hv
  have hK := hG.1
  have hx := Bd.exec
  have hb := Bd.bytes
  have hr := Bd.returns
  have hts := atoms_spec (ws := (jw yX5_check cX5_check 8 (some (.object "ProofServer$State")))) Bd.pre
  have htw : ∀ w ∈ jWl, w.before _ s = true := fun w h => hts w (List.mem_cons_of_mem _ h)
  have hown : s.vm.findClass RX5 = some m.cls := findClass_of_methodNamed Bd.named
  have hlocks := Bd.notSynchronized
  obtain ⟨Q, hQ⟩ : ∃ Q, Q = MQ below (jQx (S := jT) (fun v u => jRf u 11 0 v ∧ True) (fun u t => jRa (dC, dI) B base G0 u EX5_check H0 (23) (535) [] t.heap ∧ (jNk [0, 1, 2, 3, 4, 6, 7, 8, 9, 10, 12, 13, 14, 15, 16]) G0 u ∧ jIs (dC, dI) u t.heap [(jFs11, jSef dC dI u)]) (jA base)) ([.ref r0, .ref r1, .ref r2, .int a3] : List Value).toArray s (LC - H0.size) (LS - jTot H0) (jA base) := ⟨_, rfl⟩
  rw [← hQ]
  have hl := lv_entry ([.ref r0, .ref r1, .ref r2, .int a3]) (n := 8) (Nat.le_of_ble_eq_true rfl)
  rw [lg_entry_eq]
  generalize (lg_sl ([.ref r0, .ref r1, .ref r2, .int a3]) ++ List.replicate (8 - (lg_sl ([.ref r0, .ref r1, .ref r2, .int a3])).length) Slot.unset).toArray = ls at hl ⊢
  have hl : lv_has ls 8 [(0, .ref r0), (1, .ref r1), (2, .ref r2), (3, .int a3)] := hl
  generalize hR : (headSpec (jw yX5_check cX5_check 8 (some (.object "ProofServer$State"))) ({ frames := 70, cells := LC - H0.size, slots := LS - jTot H0, locals := 2256 })).room = R
  subst hH0
  have hh : jSt (dC, dI) B base G0 G0 EX5_check s.heap 0 0 [] [] [(jFs11, jSef dC dI G0)] s.heap [] := jSt.start hX hP0 jMc.nil hI0
  clear hX hP0
  have hk0 : (0 : Int32).toInt = 0 := by decide
  have hk1 : (1 : Int32).toInt = 1 := by decide
  have hk3 : (3 : Int32).toInt = 3 := by decide
  have hk4 : (4 : Int32).toInt = 4 := by decide
  have hk6 : (6 : Int32).toInt = 6 := by decide
  have hk8 : (8 : Int32).toInt = 8 := by decide
  have hly_7_1 := htw (u_lay RX5 TX5 1) (jWc_wsX50 _ (u_in_lay (by decide)))
  have hly_11_2 := htw (u_lay RX9 TX9 2) (jWc_wsX90 _ (u_in_lay (by decide)))
  have hly_11_6 := htw (u_lay RX9 TX9 6) (jWc_wsX90 _ (u_in_lay (by decide)))
  have hly_12_5 := htw (u_lay RX10 TX10 5) (jWc_wsX100 _ (u_in_lay (by decide)))
  have hlk_62 := (htw (.fieldLink RX5 62 "ProofServer$State" "fault" "I") (jWr_78 _ (List.mem_of_getElem? (i := 18) rfl)))
  have hlk_23 := (htw (.fieldLink RX5 23 "ProofServer$Kernel" "syntax" "LProofServer$Syntax;") (jWr_4 _ (List.mem_of_getElem? (i := 15) rfl)))
  have hlk_74 := (htw (.fieldLink RX5 74 "ProofServer$Syntax" "word" "I") (jWr_78 _ (List.mem_of_getElem? (i := 19) rfl)))
  have hlk_77 := (htw (.fieldLink RX5 77 "ProofServer$State" "lemma" "I") (jWr_78 _ (List.mem_of_getElem? (i := 20) rfl)))
  have hrg_a3 := jb_rng a3
  have hbs : base ≤ s.heap.size := Nat.le_of_lt (Nat.lt_of_le_of_lt (hh.ab hg_r0).1 (hh.ab hg_r0).2)
  have hRc : R.cells = LC - s.heap.size := by rw [← hR]; rfl
  have hRs : R.slots = LS - jTot s.heap := by rw [← hR]; rfl
  have hsz_1 := hh.2.2.2.2.2.1
  have htt_1 := hh.2.2.2.2.2.2.1
  refine j7_newo (k := 11) (C := RX9) (T := TX9) (N := 9) (fs := [.null, .null, .int 0, .null, .null, .null, .int 0, .null, .null]) hx hb htw jWc_wsX90 (fun k => ([(.object "ProofServer$State"), (.array .int), .int, (.array .int), (.array .int), (.array (.array .int)), .int, (.array .int), (.array (.object "ProofServer$Goal"))] : List FieldType).getD k .int) (by decide +kernel) hown (htw (.classLink RX5 27 RX9) (jWr_4 _ (List.mem_of_getElem? (i := 16) rfl))) (htw (.instantiable RX9 9) (jWr_4 _ (List.mem_of_getElem? (i := 17) rfl))) (htw (.initialized RX9) (jWr_4 _ (List.mem_of_getElem? (i := 18) rfl))) hK rfl (fun j hj => by rcases (by omega : j = 0 ∨ j = 1 ∨ j = 2 ∨ j = 3 ∨ j = 4 ∨ j = 5 ∨ j = 6 ∨ j = 7 ∨ j = 8) with rfl | rfl | rfl | rfl | rfl | rfl | rfl | rfl | rfl <;> rfl) hh hB (by rw [hRc]; omega) (by rw [hRs]; omega) dX5_check_0 (fun H_1 hraw_1 hfr_1 hnr_1 hh_1 => ?_)
  have hke_1 : jKe G0 G0 s.heap H_1 := jKe.raw hfr_1
  have hbr_1 : base ≤ s.heap.size := Nat.le_trans hbs hh.1.1
  have hsy_1 : s.heap.size ≤ s.heap.size := hh.1.1
  clear hh
  refine lv_dup hx hb dX5_check_3 rfl ?_
  refine lv_aload_n hx hb dX5_check_4 rfl (lv_at hl 1 rfl) ?_
  refine lv_aload_n hx hb dX5_check_5 rfl (lv_at hl 2 rfl) ?_
  have hsz_2 := hh_1.2.2.2.2.2.1
  have htt_2 := hh_1.2.2.2.2.2.2.1
  refine W.room (fun hrc_2 hrs_2 => ?_)
  refine va_callv (A0 := jA base) (H0 := s.heap) (va_runI (As := [.ref r1, .ref r2]) (rest := [.ref s.heap.size]) ⟨hx, hb, hml, hown, hts⟩ (uX9_init_ l dC dI ca base B hB hAp hB5 hB11 hB101 hB214 hB280 hB313 G0 H_1 s.heap.size r1 r2 n2 LC LS) (cwI 2 hts (jgW (jWr_78 _ (List.mem_of_getElem? (i := 23) rfl))) rfl rfl rfl (htw (.initialized RX9) (jWr_4 _ (List.mem_of_getElem? (i := 18) rfl))) (htw (.methodLink RX5 59 yX9_init_) (jWr_78 _ (List.mem_of_getElem? (i := 21) rfl))) (htw (.instanceMethod yX9_init_) (jWr_78 _ (List.mem_of_getElem? (i := 22) rfl))) rfl (by decide +kernel) ⟨by rw [← hR]; exact Nat.le_of_ble_eq_true rfl, by rw [← hR]; exact Nat.le_of_ble_eq_true rfl⟩) ⟨fun a U g mk q => by obtain ⟨q0, q1, q2, qK, q10, q11, q12, q13, q14, q15, q16, q17, q18, q19, q20⟩ := q; exact ⟨q0, q1, q2, jG.calling g mk a qK, (va_K.moved (Vm.Alike.refl U.vm) q10), (jK5.moved (Vm.Alike.refl U.vm) q11), (jK6.moved (Vm.Alike.refl U.vm) q12), q13, q14, q15, q16, q17, q18, q19, q20⟩, fun U hU hW => ⟨rfl, hU, hh_1.2.1, hG.step hW hU hh_1.1, va_K.moved hW.alike hK2, jK5.moved hW.alike hK5, jK6.moved hW.alike hK6, hg_r1, hg_r2, hraw_1, hnr_1, hbr_1, jP.nil, (hh_1.2.2.2.2.2.2.2.2.sub (L1 := [(jFs11, jSef dC dI G0)]) [0] rfl), (by omega), (by omega), by first | omega | rfl | assumption | decide | exact Or.inl rfl | exact Or.inr rfl | (simp only; omega)⟩⟩ rfl rfl hl.1 rfl (lv_room (Nat.le_of_ble_eq_true rfl)) dX5_check_6 ⟨by rw [hRc]; omega, by rw [hRs]; omega⟩) hh_1.1 (fun q _ h => h) (fun q h => h) (fun u_2 t_2 H_2 locs_2 ht_2 hvm_2 hr_3 hb_2 hz_2 hk_2 hS_2 => ?_)
  rw [ht_2] at hb_2
  obtain ⟨G_2, rfl⟩ : ∃ z, z = u_2 := ⟨_, rfl⟩
  try simp only at hb_2
  obtain ⟨⟨hb_21, hb_22, hb_23, hb_24, hb_25, hb_26⟩, hN_2, hgc_2, hbX_2, hbE_2⟩ := hb_2
  have hN_2 : (jNk [0, 1, 2, 3, 4, 6, 7, 8, 9, 10, 12, 13, 14, 15, 16]) G0 G_2 := hN_2.sub (by decide)
  have hh_2 : jSt (dC, dI) B base G0 G_2 EX5_check s.heap ((0 + 1) + (5)) ((0 + 9) + (0)) [] [] [] H_2 locs_2 := (hh_1.callG hb_21 hb_22 hb_23 hb_24 hb_25 hS_2 rfl (L1 := []) [] rfl rfl (M1 := []) [] rfl rfl (I1 := []) [] rfl rfl).more hb_26
  have hNn_2 : (jNk [0, 1, 2, 3, 4, 6, 7, 8, 9, 10, 12, 13, 14, 15, 16]) G0 G_2 := (jNk.rf).tr hN_2
  have hg_4 := hb_22 _ _ hg_r0
  have hg_5 := hb_22 _ _ hg_r1
  have hg_6 := hb_22 _ _ hg_r2
  have hh_7 := hh_2.addIs hbE_2
  try simp only at hr_3
  refine lv_astore (lv' := [(4, .ref s.heap.size), (0, .ref r0), (1, .ref r1), (2, .ref r2), (3, .int a3)]) hx hb dX5_check_9 hl (by decide) rfl (fun ls hl => ?_)
  refine lv_aload hx hb dX5_check_11 (lv_at hl 0 rfl) ?_
  refine lv_iload_n hx hb dX5_check_13 rfl (lv_at hl 4 rfl) ?_
  refine j7_put hx hb hown hK hh_7 hB hAp hB11 (C := RX9) (T := TX9) (N := 9) rfl (by decide) hgc_2 (i := 2) (by decide) hly_11_2 rfl hlk_62 rfl (ty := .int) (v := .int a3) (by decide +kernel) rfl rfl (⟨_, rfl⟩) rfl (L1 := []) [] rfl rfl rfl dX5_check_14 (fun H_8 locs_8 hh_8 => ?_)
  clear hh_7
  refine lv_iload_n hx hb dX5_check_17 rfl (lv_at hl 4 rfl) ?_
  refine lv_if_le (tgt := 24) hx hb dX5_check_18 (by decide) (fun c_9 => ?_) (fun c_9 => ?_)
  · skip
    have c_9' : a3.toInt ≤ 0 := jb_le (rfl) ((by decide)) c_9
    refine lv_aload_n hx hb dX5_check_24 rfl (lv_at hl 1 rfl) ?_
    obtain ⟨v_10, hv_10, hh_11⟩ := hh_8.pin (C := RX5) (T := TX5) (N := 11) hB7 rfl (by decide) hg_4 (i := 1) (by decide) rfl
    clear hh_8
    obtain ⟨syntax_12, rfl, hg_syntax_12⟩ := hv_10
    refine j7_read hx hb hown hK (C := RX5) (T := TX5) (N := 11) rfl hly_7_1 hlk_23 (hh_11.at 0 rfl) dX5_check_25 ?_
    refine lv_aload_n hx hb dX5_check_28 rfl (lv_at hl 3 rfl) ?_
    refine lv_iconst (v := 0) hx hb dX5_check_29 (by decide) ?_
    refine lv_aload_n hx hb dX5_check_30 rfl (lv_at hl 3 rfl) ?_
    refine j7_len hx hb hK hh_11 hB101 1 rfl (by decide) hg_6 (by omega) dX5_check_31 (fun z_13 hz_13 => ?_)
    have hsz_14 := hh_11.2.2.2.2.2.1
    have htt_14 := hh_11.2.2.2.2.2.2.1
    refine W.room (fun hrc_14 hrs_14 => ?_)
    refine va_calli (A0 := jA base) (H0 := s.heap) (va_runV (As := [.ref r2, .int 0, .int z_13]) (rest := []) ⟨hx, hb, hml, hown, hts⟩ (uX10_scanB l dC dI ca base B hB hAp hB8 hB12 hB101 hB102 hB132 hB133 hB293 G_2 H_8 syntax_12 r2 0 z_13 n2) (cwV 3 hts (jgV (jWr_79 _ (List.mem_of_getElem? (i := 0) rfl)) (jWr_36 _ (List.mem_of_getElem? (i := 20) rfl)) (jWr_36 _ (List.mem_of_getElem? (i := 21) rfl)) (jWr_4 _ (List.mem_of_getElem? (i := 14) rfl)) (jWr_36 _ (List.mem_of_getElem? (i := 22) rfl))) rfl rfl rfl (by decide +kernel) ⟨by rw [← hR]; exact Nat.le_of_ble_eq_true rfl, by rw [← hR]; exact Nat.le_of_ble_eq_true rfl⟩) ⟨fun a U g mk q => by obtain ⟨q0, q1, q2, qK, q10, q11, q12, q13⟩ := q; exact ⟨q0, q1, q2, jG.calling g mk a qK, q10, q11, q12, q13⟩, hh_11.recv (C := RX10) (T := TX10) (N := 11) hB12 rfl (by decide) hg_syntax_12 hK, fun U hU hW => ⟨rfl, hU, hh_11.2.1, hG.step hW hU hh_11.1, hg_syntax_12, hg_6, jP.nil, by first | omega | (refine ⟨?_, ?_⟩ <;> (first | omega | rfl | assumption | decide | exact Or.inl rfl | exact Or.inr rfl | (simp only; omega)))⟩⟩ rfl rfl hl.1 rfl (lv_room (Nat.le_of_ble_eq_true rfl)) dX5_check_32 ⟨by rw [hRc]; show _ + 0 ≤ _; omega, by rw [hRs]; show _ + 0 ≤ _; omega⟩) hh_11.1 (fun q _ h => h) (fun q h => h) (fun r_15 u_14 t_14 H_14 locs_14 ht_14 hvm_14 hr_15 hb_14 hz_14 hk_14 hS_14 => ?_)
    rw [ht_14] at hb_14
    obtain ⟨hb_141, hb_142, hb_143, hb_144, hb_145⟩ := hb_14
    have hh_14 : jSt (dC, dI) B base G0 G_2 EX5_check s.heap ((0 + 1) + (5)) ((0 + 9) + (0)) [(r0, 7, 1, .ref syntax_12), (s.heap.size, 11, 2, .int a3)] [] [(jFs11, jSef dC dI G_2)] H_14 locs_14 := ((hh_11.call hb_141 hb_142 hb_143 hb_144 hS_14 rfl (L1 := [(r0, 7, 1, .ref syntax_12), (s.heap.size, 11, 2, .int a3)]) [0, 1] rfl rfl (M1 := []) [] rfl rfl (I1 := [(jFs11, jSef dC dI G_2)]) [0] rfl rfl).more hb_145)
    clear hh_11 ht_14 hvm_14 hz_14 hk_14 hS_14 hb_141 hb_142 hb_143 hb_144 hb_145
    obtain ⟨hr_15_0, hr_15_1⟩ := hr_15
    refine lv_pop hx hb dX5_check_35 rfl ?_
    refine lv_aload_n hx hb dX5_check_36 rfl (lv_at hl 1 rfl) ?_
    refine j7_read hx hb hown hK (C := RX5) (T := TX5) (N := 11) rfl hly_7_1 hlk_23 (hh_14.at 0 rfl) dX5_check_37 ?_
    have hsz_16 := hh_14.2.2.2.2.2.1
    have htt_16 := hh_14.2.2.2.2.2.2.1
    refine W.room (fun hrc_16 hrs_16 => ?_)
    refine va_calli (A0 := jA base) (H0 := s.heap) (va_runV (As := []) (rest := []) ⟨hx, hb, hml, hown, hts⟩ (uX10_isSentenceB l dC dI ca base B hB hAp hB12 hB101 hB280 hB292 hB293 G_2 H_14 syntax_12) (cwV 0 hts (jgV (jWr_79 _ (List.mem_of_getElem? (i := 1) rfl)) (jWr_79 _ (List.mem_of_getElem? (i := 2) rfl)) (jWr_79 _ (List.mem_of_getElem? (i := 3) rfl)) (jWr_4 _ (List.mem_of_getElem? (i := 14) rfl)) (jWr_79 _ (List.mem_of_getElem? (i := 4) rfl))) rfl rfl rfl (by decide +kernel) ⟨by rw [← hR]; exact Nat.le_of_ble_eq_true rfl, by rw [← hR]; exact Nat.le_of_ble_eq_true rfl⟩) ⟨fun a U g mk q => by obtain ⟨q0, q1, q2, qK, q10, q11, q12⟩ := q; exact ⟨q0, q1, q2, jG.calling g mk a qK, q10, q11, q12⟩, hh_14.recv (C := RX10) (T := TX10) (N := 11) hB12 rfl (by decide) hg_syntax_12 hK, fun U hU hW => ⟨rfl, hU, hh_14.2.1, hG.step hW hU hh_14.1, hg_syntax_12, jP.nil, trivial⟩⟩ rfl rfl hl.1 rfl (lv_room (Nat.le_of_ble_eq_true rfl)) dX5_check_40 ⟨by rw [hRc]; show _ + 0 ≤ _; omega, by rw [hRs]; show _ + 0 ≤ _; omega⟩) hh_14.1 (fun q _ h => h) (fun q h => h) (fun r_17 u_16 t_16 H_16 locs_16 ht_16 hvm_16 hr_17 hb_16 hz_16 hk_16 hS_16 => ?_)
    rw [ht_16] at hb_16
    obtain ⟨hb_161, hb_162, hb_163, hb_164, hb_165⟩ := hb_16
    have hh_16 : jSt (dC, dI) B base G0 G_2 EX5_check s.heap ((0 + 1) + (5)) ((0 + 9) + (0)) [(r0, 7, 1, .ref syntax_12), (s.heap.size, 11, 2, .int a3)] [] [(jFs11, jSef dC dI G_2)] H_16 locs_16 := ((hh_14.call hb_161 hb_162 hb_163 hb_164 hS_16 rfl (L1 := [(r0, 7, 1, .ref syntax_12), (s.heap.size, 11, 2, .int a3)]) [0, 1] rfl rfl (M1 := []) [] rfl rfl (I1 := [(jFs11, jSef dC dI G_2)]) [0] rfl rfl).more hb_165)
    clear hh_14 ht_16 hvm_16 hz_16 hk_16 hS_16 hb_161 hb_162 hb_163 hb_164 hb_165
    obtain ⟨hr_17b, hr_17p⟩ := hr_17
    have hr_17' := jb_01 hr_17b
    refine lv_istore (lv' := [(5, .int r_17), (4, .ref s.heap.size), (0, .ref r0), (1, .ref r1), (2, .ref r2), (3, .int a3)]) hx hb dX5_check_43 hl (by decide) rfl (fun ls hl => ?_)
    refine lv_aload_n hx hb dX5_check_45 rfl (lv_at hl 2 rfl) ?_
    refine j7_read hx hb hown hK (C := RX5) (T := TX5) (N := 11) rfl hly_7_1 hlk_23 (hh_16.at 0 rfl) dX5_check_46 ?_
    obtain ⟨v_18, hv_18, hh_19⟩ := hh_16.pin (C := RX10) (T := TX10) (N := 11) hB12 rfl (by decide) hg_syntax_12 (i := 5) (by decide) rfl
    clear hh_16
    obtain ⟨word_20, rfl⟩ := hv_18
    refine j7_read hx hb hown hK (C := RX10) (T := TX10) (N := 11) rfl hly_12_5 hlk_74 (hh_19.at 0 rfl) dX5_check_49 ?_
    refine lv_bipush (v := 6) hx hb dX5_check_52 (by decide) ?_
    have C62 : ∀ (w0_21 : Int32) (H_21 : Heap) (locs_21 : List Loc), jSt (dC, dI) B base G0 G_2 EX5_check s.heap ((0 + 1) + (5)) ((0 + 9) + (0)) [(syntax_12, 12, 5, .int word_20), (r0, 7, 1, .ref syntax_12), (s.heap.size, 11, 2, .int a3)] [] [(jFs11, jSef dC dI G_2)] H_21 locs_21 → (w0_21 = 0 ∨ w0_21 = 1) → (True) → ∀ ls : Array Slot, lv_has ls 8 [(0, .ref r0), (1, .ref r1), (2, .ref r2), (3, .int a3), (4, .ref s.heap.size), (5, .int r_17)] → W p l e R s m ([.ref r0, .ref r1, .ref r2, .int a3] : List Value).toArray below meth c H_21 locs_21 ((0 + 1) + (5)) ((0 + 9) + (0)) Q (F0 m 62 ls [.int w0_21]) := by
      intro w0_21 H_21 locs_21 hh_21 hb_w0_21 hi_21 ls hl
      have hb_w0_21' := jb_01 hb_w0_21
      refine lv_istore (lv' := [(6, .int w0_21), (0, .ref r0), (1, .ref r1), (2, .ref r2), (3, .int a3), (4, .ref s.heap.size), (5, .int r_17)]) hx hb dX5_check_62 hl (by decide) rfl (fun ls hl => ?_)
      refine lv_aload hx hb dX5_check_64 (lv_at hl 5 rfl) ?_
      obtain ⟨v_22, hv_22, hh_23⟩ := hh_21.pin (C := RX9) (T := TX9) (N := 9) hB11 rfl (by decide) hgc_2 (i := 6) (by decide) rfl
      clear hh_21
      obtain ⟨lemma_24, rfl⟩ := hv_22
      refine j7_read hx hb hown hK (C := RX9) (T := TX9) (N := 9) rfl hly_11_6 hlk_77 (hh_23.at 0 rfl) dX5_check_66 ?_
      have C77 : ∀ (w0_25 : Int32) (H_25 : Heap) (locs_25 : List Loc), jSt (dC, dI) B base G0 G_2 EX5_check s.heap ((0 + 1) + (5)) ((0 + 9) + (0)) [(s.heap.size, 11, 6, .int lemma_24), (syntax_12, 12, 5, .int word_20), (r0, 7, 1, .ref syntax_12), (s.heap.size, 11, 2, .int a3)] [] [(jFs11, jSef dC dI G_2)] H_25 locs_25 → (w0_25 = 0 ∨ w0_25 = 1) → (True) → ∀ ls : Array Slot, lv_has ls 8 [(0, .ref r0), (1, .ref r1), (2, .ref r2), (3, .int a3), (4, .ref s.heap.size), (5, .int r_17), (6, .int w0_21)] → W p l e R s m ([.ref r0, .ref r1, .ref r2, .int a3] : List Value).toArray below meth c H_25 locs_25 ((0 + 1) + (5)) ((0 + 9) + (0)) Q (F0 m 77 ls [.int w0_25]) := by
        intro w0_25 H_25 locs_25 hh_25 hb_w0_25 hi_25 ls hl
        have hb_w0_25' := jb_01 hb_w0_25
        refine lv_istore (lv' := [(7, .int w0_25), (0, .ref r0), (1, .ref r1), (2, .ref r2), (3, .int a3), (4, .ref s.heap.size), (5, .int r_17), (6, .int w0_21)]) hx hb dX5_check_77 hl (by decide) rfl (fun ls hl => ?_)
        refine lv_iload hx hb dX5_check_79 (lv_at hl 6 rfl) ?_
        refine lv_if_ne (tgt := 93) hx hb dX5_check_81 (by decide) (fun c_26 => ?_) (fun c_26 => ?_)
        · skip
          have c_26' : r_17.toInt ≠ 0 := jb_ne (rfl) ((by decide)) c_26
          refine lv_iload hx hb dX5_check_93 (lv_at hl 7 rfl) ?_
          refine lv_iload hx hb dX5_check_95 (lv_at hl 0 rfl) ?_
          refine lv_icmp_eq (tgt := 109) hx hb dX5_check_97 (by decide) (fun c_27 => ?_) (fun c_27 => ?_)
          · skip
            have c_27' : w0_21.toInt = w0_25.toInt := jb_eq (rfl) (rfl) c_27
            refine lv_aload_n hx hb dX5_check_109 rfl (lv_at hl 1 rfl) ?_
            refine j7_read hx hb hown hK (C := RX5) (T := TX5) (N := 11) rfl hly_7_1 hlk_23 (hh_25.at 2 rfl) dX5_check_110 ?_
            refine j7_read hx hb hown hK (C := RX10) (T := TX10) (N := 11) rfl hly_12_5 hlk_74 (hh_25.at 1 rfl) dX5_check_113 ?_
            refine lv_iconst (v := 4) hx hb dX5_check_116 (by decide) ?_
            refine lv_icmp_gt (tgt := 134) hx hb dX5_check_117 (by decide) (fun c_28 => ?_) (fun c_28 => ?_)
            · skip
              have c_28' : word_20.toInt > 4 := jb_gt (rfl) ((by decide)) c_28
              refine lv_aload_n hx hb dX5_check_134 rfl (lv_at hl 1 rfl) ?_
              refine j7_read hx hb hown hK (C := RX5) (T := TX5) (N := 11) rfl hly_7_1 hlk_23 (hh_25.at 2 rfl) dX5_check_135 ?_
              refine j7_read hx hb hown hK (C := RX10) (T := TX10) (N := 11) rfl hly_12_5 hlk_74 (hh_25.at 1 rfl) dX5_check_138 ?_
              refine lv_bipush (v := 6) hx hb dX5_check_141 (by decide) ?_
              refine lv_icmp_gt (tgt := 160) hx hb dX5_check_143 (by decide) (fun c_29 => ?_) (fun c_29 => ?_)
              · skip
                have c_29' : word_20.toInt > 6 := jb_gt (rfl) ((by decide)) c_29
                refine lv_aload_n hx hb dX5_check_160 rfl (lv_at hl 1 rfl) ?_
                refine j7_read hx hb hown hK (C := RX5) (T := TX5) (N := 11) rfl hly_7_1 hlk_23 (hh_25.at 2 rfl) dX5_check_161 ?_
                refine j7_read hx hb hown hK (C := RX10) (T := TX10) (N := 11) rfl hly_12_5 hlk_74 (hh_25.at 1 rfl) dX5_check_164 ?_
                refine lv_bipush (v := 8) hx hb dX5_check_167 (by decide) ?_
                refine lv_icmp_gt (tgt := 186) hx hb dX5_check_169 (by decide) (fun c_30 => ?_) (fun c_30 => ?_)
                · skip
                  have c_30' : word_20.toInt > 8 := jb_gt (rfl) ((by decide)) c_30
                  refine lv_aload hx hb dX5_check_186 (lv_at hl 5 rfl) ?_
                  refine lv_aload_n hx hb dX5_check_188 rfl (lv_at hl 1 rfl) ?_
                  refine lv_aload hx hb dX5_check_189 (lv_at hl 5 rfl) ?_
                  have hsz_31 := hh_25.2.2.2.2.2.1
                  have htt_31 := hh_25.2.2.2.2.2.2.1
                  refine W.room (fun hrc_31 hrs_31 => ?_)
                  refine va_calli (A0 := jA base) (H0 := s.heap) (va_runV (As := [.ref s.heap.size]) (rest := [.ref s.heap.size]) ⟨hx, hb, hml, hown, hts⟩ (uX5_tactic l dC dI ca base B hB hAp hB5 hB7 hB11 hB12 hB101 hB211 hB214 hB280 hB290 hB291 hB292 hB313 hB315 G_2 H_25 r0 s.heap.size LC LS) (cwV 1 hts (jgV (jWr_83 _ (List.mem_of_getElem? (i := 22) rfl)) (jWr_83 _ (List.mem_of_getElem? (i := 23) rfl)) (jWr_84 _ (List.mem_of_getElem? (i := 0) rfl)) (jWr_2 _ (List.mem_of_getElem? (i := 4) rfl)) (jWr_84 _ (List.mem_of_getElem? (i := 1) rfl))) rfl rfl rfl (by decide +kernel) ⟨by rw [← hR]; exact Nat.le_of_ble_eq_true rfl, by rw [← hR]; exact Nat.le_of_ble_eq_true rfl⟩) ⟨fun a U g mk q => by obtain ⟨q0, q1, q2, qK, q10, q11, q12, q13, q14, q15, q16, q17⟩ := q; exact ⟨q0, q1, q2, jG.calling g mk a qK, (va_K.moved (Vm.Alike.refl U.vm) q10), (jK5.moved (Vm.Alike.refl U.vm) q11), (jK6.moved (Vm.Alike.refl U.vm) q12), q13, q14, q15, q16, q17⟩, hh_25.recv (C := RX5) (T := TX5) (N := 11) hB7 rfl (by decide) hg_4 hK, fun U hU hW => ⟨rfl, hU, hh_25.2.1, hG.step hW hU hh_25.1, va_K.moved hW.alike hK2, jK5.moved hW.alike hK5, jK6.moved hW.alike hK6, hg_4, hgc_2, jP.nil, (hh_25.2.2.2.2.2.2.2.2.sub (L1 := [(jFs11, jSef dC dI G_2)]) [0] rfl), (by omega), (by omega), trivial⟩⟩ rfl rfl hl.1 rfl (lv_room (Nat.le_of_ble_eq_true rfl)) dX5_check_191 ⟨by rw [hRc]; omega, by rw [hRs]; omega⟩) hh_25.1 (fun q _ h => h) (fun q h => h) (fun r_32 u_31 t_31 H_31 locs_31 ht_31 hvm_31 hr_32 hb_31 hz_31 hk_31 hS_31 => ?_)
                  rw [ht_31] at hb_31
                  obtain ⟨G_31, rfl⟩ : ∃ z, z = u_31 := ⟨_, rfl⟩
                  try simp only at hb_31
                  obtain ⟨⟨hb_311, hb_312, hb_313, hb_314, hb_315, hb_316⟩, hN_31, hbE_31⟩ := hb_31
                  have hM_31 := hN_31
                  have hN_31 : (jNk [0, 1, 2, 3, 4, 6, 7, 8, 9, 10, 12, 13, 14, 15, 16]) G_2 G_31 := hN_31.sub (by decide)
                  have hh_31 : jSt (dC, dI) B base G0 G_31 EX5_check s.heap (((0 + 1) + (5)) + (17)) (((0 + 9) + (0)) + (526)) [(s.heap.size, 11, 6, .int lemma_24), (syntax_12, 12, 5, .int word_20), (r0, 7, 1, .ref syntax_12), (s.heap.size, 11, 2, .int a3)] [] [] H_31 locs_31 := (hh_25.callG hb_311 hb_312 hb_313 hb_314 hb_315 hS_31 rfl (L1 := [(s.heap.size, 11, 6, .int lemma_24), (syntax_12, 12, 5, .int word_20), (r0, 7, 1, .ref syntax_12), (s.heap.size, 11, 2, .int a3)]) [0, 1, 2, 3] rfl rfl (M1 := []) [] rfl rfl (I1 := []) [] rfl rfl).more hb_316
                  have hNn_31 : (jNk [0, 1, 2, 3, 4, 6, 7, 8, 9, 10, 12, 13, 14, 15, 16]) G0 G_31 := (hNn_2).tr hN_31
                  have hg_33 := hb_312 _ _ hg_4
                  have hg_34 := hb_312 _ _ hg_5
                  have hg_35 := hb_312 _ _ hg_6
                  have hg_36 := hb_312 _ _ hgc_2
                  have hg_37 := hb_312 _ _ hg_syntax_12
                  have hh_38 := hh_31.addIs hbE_31
                  try simp only at hr_32
                  refine j7_put hx hb hown hK hh_38 hB hAp hB11 (C := RX9) (T := TX9) (N := 9) rfl (by decide) hg_36 (i := 2) (by decide) hly_11_2 rfl hlk_62 rfl (ty := .int) (v := .int r_32) (by decide +kernel) rfl rfl (⟨_, rfl⟩) rfl (L1 := [(s.heap.size, 11, 6, .int lemma_24), (syntax_12, 12, 5, .int word_20), (r0, 7, 1, .ref syntax_12)]) [0, 1, 2] rfl rfl rfl dX5_check_194 (fun H_39 locs_39 hh_39 => ?_)
                  clear hh_38
                  refine lv_aload hx hb dX5_check_197 (lv_at hl 5 rfl) ?_
                  have hsz_40 := hh_39.2.2.2.2.2.1
                  have htt_40 := hh_39.2.2.2.2.2.2.1
                  refine W.room (fun hrc_40 hrs_40 => ?_)
                  refine W.widen (k := LC - s.heap.size) (n := LS - jTot s.heap) (by omega) (by omega) ?_
                  rw [hQ]
                  exact W.aret (v := .ref s.heap.size) hx hb hr (Or.inl ⟨_, rfl⟩) (Or.inr ⟨_, rfl⟩) (fun t ht hW => ⟨⟨.ref s.heap.size, G_31, rfl, ⟨⟨_, rfl, hg_36⟩, trivial⟩, ⟨hh_39.ra (by first | omega | (simp only; omega)) (by first | omega | (simp only; omega)) (M1 := []) [] rfl ht, hNn_31, by rw [ht]; exact hh_39.2.2.2.2.2.2.2.2.sub (L1 := [(jFs11, jSef dC dI G_31)]) [0] rfl⟩⟩, by rw [ht]; try exact hh_39.1.1, fun q h9 hq => by rw [ht]; try exact hh_39.1.2.1 q h9 hq⟩) hh_39.1.2.2 dX5_check_199
                · skip
                  have c_30' : word_20.toInt ≤ 8 := jb_gt_n (rfl) ((by decide)) c_30
                  refine lv_aload hx hb dX5_check_172 (lv_at hl 5 rfl) ?_
                  refine lv_aload_n hx hb dX5_check_174 rfl (lv_at hl 1 rfl) ?_
                  refine lv_aload hx hb dX5_check_175 (lv_at hl 5 rfl) ?_
                  have hsz_41 := hh_25.2.2.2.2.2.1
                  have htt_41 := hh_25.2.2.2.2.2.2.1
                  refine W.room (fun hrc_41 hrs_41 => ?_)
                  refine va_calli (A0 := jA base) (H0 := s.heap) (va_runV (As := [.ref s.heap.size]) (rest := [.ref s.heap.size]) ⟨hx, hb, hml, hown, hts⟩ (uX5_leaveProof l dC dI ca base B hB hAp hB5 hB7 hB11 hB12 hB101 hB214 hB280 hB313 G_2 H_25 r0 s.heap.size LC LS) (cwV 1 hts (jgV (jWr_83 _ (List.mem_of_getElem? (i := 14) rfl)) (jWr_83 _ (List.mem_of_getElem? (i := 15) rfl)) (jWr_83 _ (List.mem_of_getElem? (i := 16) rfl)) (jWr_2 _ (List.mem_of_getElem? (i := 4) rfl)) (jWr_83 _ (List.mem_of_getElem? (i := 17) rfl))) rfl rfl rfl (by decide +kernel) ⟨by rw [← hR]; exact Nat.le_of_ble_eq_true rfl, by rw [← hR]; exact Nat.le_of_ble_eq_true rfl⟩) ⟨fun a U g mk q => by obtain ⟨q0, q1, q2, qK, q10, q11, q12, q13, q14, q15, q16, q17⟩ := q; exact ⟨q0, q1, q2, jG.calling g mk a qK, (va_K.moved (Vm.Alike.refl U.vm) q10), (jK5.moved (Vm.Alike.refl U.vm) q11), (jK6.moved (Vm.Alike.refl U.vm) q12), q13, q14, q15, q16, q17⟩, hh_25.recv (C := RX5) (T := TX5) (N := 11) hB7 rfl (by decide) hg_4 hK, fun U hU hW => ⟨rfl, hU, hh_25.2.1, hG.step hW hU hh_25.1, va_K.moved hW.alike hK2, jK5.moved hW.alike hK5, jK6.moved hW.alike hK6, hg_4, hgc_2, jP.nil, (hh_25.2.2.2.2.2.2.2.2.sub (L1 := [(jFs11, jSef dC dI G_2)]) [0] rfl), (by omega), (by omega), trivial⟩⟩ rfl rfl hl.1 rfl (lv_room (Nat.le_of_ble_eq_true rfl)) dX5_check_177 ⟨by rw [hRc]; omega, by rw [hRs]; omega⟩) hh_25.1 (fun q _ h => h) (fun q h => h) (fun r_42 u_41 t_41 H_41 locs_41 ht_41 hvm_41 hr_42 hb_41 hz_41 hk_41 hS_41 => ?_)
                  rw [ht_41] at hb_41
                  obtain ⟨G_41, rfl⟩ : ∃ z, z = u_41 := ⟨_, rfl⟩
                  try simp only at hb_41
                  obtain ⟨⟨hb_411, hb_412, hb_413, hb_414, hb_415, hb_416⟩, hN_41, hbE_41⟩ := hb_41
                  have hM_41 := hN_41
                  have hN_41 : (jNk [0, 1, 2, 3, 4, 6, 7, 8, 9, 10, 12, 13, 14, 15, 16]) G_2 G_41 := hN_41.sub (by decide)
                  have hh_41 : jSt (dC, dI) B base G0 G_41 EX5_check s.heap (((0 + 1) + (5)) + (4)) (((0 + 9) + (0)) + (60)) [(syntax_12, 12, 5, .int word_20), (r0, 7, 1, .ref syntax_12), (s.heap.size, 11, 2, .int a3)] [] [] H_41 locs_41 := (hh_25.callG hb_411 hb_412 hb_413 hb_414 hb_415 hS_41 rfl (L1 := [(syntax_12, 12, 5, .int word_20), (r0, 7, 1, .ref syntax_12), (s.heap.size, 11, 2, .int a3)]) [1, 2, 3] rfl rfl (M1 := []) [] rfl rfl (I1 := []) [] rfl rfl).more hb_416
                  have hNn_41 : (jNk [0, 1, 2, 3, 4, 6, 7, 8, 9, 10, 12, 13, 14, 15, 16]) G0 G_41 := (hNn_2).tr hN_41
                  have hg_43 := hb_412 _ _ hg_4
                  have hg_44 := hb_412 _ _ hg_5
                  have hg_45 := hb_412 _ _ hg_6
                  have hg_46 := hb_412 _ _ hgc_2
                  have hg_47 := hb_412 _ _ hg_syntax_12
                  have hh_48 := hh_41.addIs hbE_41
                  try simp only at hr_42
                  refine j7_put hx hb hown hK hh_48 hB hAp hB11 (C := RX9) (T := TX9) (N := 9) rfl (by decide) hg_46 (i := 2) (by decide) hly_11_2 rfl hlk_62 rfl (ty := .int) (v := .int r_42) (by decide +kernel) rfl rfl (⟨_, rfl⟩) rfl (L1 := [(syntax_12, 12, 5, .int word_20), (r0, 7, 1, .ref syntax_12)]) [0, 1] rfl rfl rfl dX5_check_180 (fun H_49 locs_49 hh_49 => ?_)
                  clear hh_48
                  refine lv_goto (tgt := 197) hx hb dX5_check_183 (by decide) ?_
                  refine lv_aload hx hb dX5_check_197 (lv_at hl 5 rfl) ?_
                  have hsz_50 := hh_49.2.2.2.2.2.1
                  have htt_50 := hh_49.2.2.2.2.2.2.1
                  refine W.room (fun hrc_50 hrs_50 => ?_)
                  refine W.widen (k := LC - s.heap.size) (n := LS - jTot s.heap) (by omega) (by omega) ?_
                  rw [hQ]
                  exact W.aret (v := .ref s.heap.size) hx hb hr (Or.inl ⟨_, rfl⟩) (Or.inr ⟨_, rfl⟩) (fun t ht hW => ⟨⟨.ref s.heap.size, G_41, rfl, ⟨⟨_, rfl, hg_46⟩, trivial⟩, ⟨hh_49.ra (by first | omega | (simp only; omega)) (by first | omega | (simp only; omega)) (M1 := []) [] rfl ht, hNn_41, by rw [ht]; exact hh_49.2.2.2.2.2.2.2.2.sub (L1 := [(jFs11, jSef dC dI G_41)]) [0] rfl⟩⟩, by rw [ht]; try exact hh_49.1.1, fun q h9 hq => by rw [ht]; try exact hh_49.1.2.1 q h9 hq⟩) hh_49.1.2.2 dX5_check_199
              · skip
                have c_29' : word_20.toInt ≤ 6 := jb_gt_n (rfl) ((by decide)) c_29
                refine lv_aload hx hb dX5_check_146 (lv_at hl 5 rfl) ?_
                refine lv_aload_n hx hb dX5_check_148 rfl (lv_at hl 1 rfl) ?_
                refine lv_aload hx hb dX5_check_149 (lv_at hl 5 rfl) ?_
                have hsz_51 := hh_25.2.2.2.2.2.1
                have htt_51 := hh_25.2.2.2.2.2.2.1
                refine W.room (fun hrc_51 hrs_51 => ?_)
                refine va_calli (A0 := jA base) (H0 := s.heap) (va_runV (As := [.ref s.heap.size]) (rest := [.ref s.heap.size]) ⟨hx, hb, hml, hown, hts⟩ (uX5_propose l dC dI ca base B hB hAp hB5 hB7 hB11 hB12 hB101 hB214 hB280 hB292 hB313 G_2 H_25 r0 s.heap.size LC LS) (cwV 1 hts (jgV (jWr_82 _ (List.mem_of_getElem? (i := 1) rfl)) (jWr_82 _ (List.mem_of_getElem? (i := 2) rfl)) (jWr_82 _ (List.mem_of_getElem? (i := 3) rfl)) (jWr_2 _ (List.mem_of_getElem? (i := 4) rfl)) (jWr_82 _ (List.mem_of_getElem? (i := 4) rfl))) rfl rfl rfl (by decide +kernel) ⟨by rw [← hR]; exact Nat.le_of_ble_eq_true rfl, by rw [← hR]; exact Nat.le_of_ble_eq_true rfl⟩) ⟨fun a U g mk q => by obtain ⟨q0, q1, q2, qK, q10, q11, q12, q13, q14, q15, q16, q17⟩ := q; exact ⟨q0, q1, q2, jG.calling g mk a qK, (va_K.moved (Vm.Alike.refl U.vm) q10), (jK5.moved (Vm.Alike.refl U.vm) q11), (jK6.moved (Vm.Alike.refl U.vm) q12), q13, q14, q15, q16, q17⟩, hh_25.recv (C := RX5) (T := TX5) (N := 11) hB7 rfl (by decide) hg_4 hK, fun U hU hW => ⟨rfl, hU, hh_25.2.1, hG.step hW hU hh_25.1, va_K.moved hW.alike hK2, jK5.moved hW.alike hK5, jK6.moved hW.alike hK6, hg_4, hgc_2, jP.nil, (hh_25.2.2.2.2.2.2.2.2.sub (L1 := [(jFs11, jSef dC dI G_2)]) [0] rfl), (by omega), (by omega), trivial⟩⟩ rfl rfl hl.1 rfl (lv_room (Nat.le_of_ble_eq_true rfl)) dX5_check_151 ⟨by rw [hRc]; omega, by rw [hRs]; omega⟩) hh_25.1 (fun q _ h => h) (fun q h => h) (fun r_52 u_51 t_51 H_51 locs_51 ht_51 hvm_51 hr_52 hb_51 hz_51 hk_51 hS_51 => ?_)
                rw [ht_51] at hb_51
                obtain ⟨G_51, rfl⟩ : ∃ z, z = u_51 := ⟨_, rfl⟩
                try simp only at hb_51
                obtain ⟨⟨hb_511, hb_512, hb_513, hb_514, hb_515, hb_516⟩, hN_51, hbE_51⟩ := hb_51
                have hM_51 := hN_51
                have hN_51 : (jNk [0, 1, 2, 3, 4, 6, 7, 8, 9, 10, 12, 13, 14, 15, 16]) G_2 G_51 := hN_51.sub (by decide)
                have hh_51 : jSt (dC, dI) B base G0 G_51 EX5_check s.heap (((0 + 1) + (5)) + (8)) (((0 + 9) + (0)) + (160)) [(syntax_12, 12, 5, .int word_20), (r0, 7, 1, .ref syntax_12), (s.heap.size, 11, 2, .int a3)] [] [] H_51 locs_51 := (hh_25.callG hb_511 hb_512 hb_513 hb_514 hb_515 hS_51 rfl (L1 := [(syntax_12, 12, 5, .int word_20), (r0, 7, 1, .ref syntax_12), (s.heap.size, 11, 2, .int a3)]) [1, 2, 3] rfl rfl (M1 := []) [] rfl rfl (I1 := []) [] rfl rfl).more hb_516
                have hNn_51 : (jNk [0, 1, 2, 3, 4, 6, 7, 8, 9, 10, 12, 13, 14, 15, 16]) G0 G_51 := (hNn_2).tr hN_51
                have hg_53 := hb_512 _ _ hg_4
                have hg_54 := hb_512 _ _ hg_5
                have hg_55 := hb_512 _ _ hg_6
                have hg_56 := hb_512 _ _ hgc_2
                have hg_57 := hb_512 _ _ hg_syntax_12
                have hh_58 := hh_51.addIs hbE_51
                try simp only at hr_52
                refine j7_put hx hb hown hK hh_58 hB hAp hB11 (C := RX9) (T := TX9) (N := 9) rfl (by decide) hg_56 (i := 2) (by decide) hly_11_2 rfl hlk_62 rfl (ty := .int) (v := .int r_52) (by decide +kernel) rfl rfl (⟨_, rfl⟩) rfl (L1 := [(syntax_12, 12, 5, .int word_20), (r0, 7, 1, .ref syntax_12)]) [0, 1] rfl rfl rfl dX5_check_154 (fun H_59 locs_59 hh_59 => ?_)
                clear hh_58
                refine lv_goto (tgt := 197) hx hb dX5_check_157 (by decide) ?_
                refine lv_aload hx hb dX5_check_197 (lv_at hl 5 rfl) ?_
                have hsz_60 := hh_59.2.2.2.2.2.1
                have htt_60 := hh_59.2.2.2.2.2.2.1
                refine W.room (fun hrc_60 hrs_60 => ?_)
                refine W.widen (k := LC - s.heap.size) (n := LS - jTot s.heap) (by omega) (by omega) ?_
                rw [hQ]
                exact W.aret (v := .ref s.heap.size) hx hb hr (Or.inl ⟨_, rfl⟩) (Or.inr ⟨_, rfl⟩) (fun t ht hW => ⟨⟨.ref s.heap.size, G_51, rfl, ⟨⟨_, rfl, hg_56⟩, trivial⟩, ⟨hh_59.ra (by first | omega | (simp only; omega)) (by first | omega | (simp only; omega)) (M1 := []) [] rfl ht, hNn_51, by rw [ht]; exact hh_59.2.2.2.2.2.2.2.2.sub (L1 := [(jFs11, jSef dC dI G_51)]) [0] rfl⟩⟩, by rw [ht]; try exact hh_59.1.1, fun q h9 hq => by rw [ht]; try exact hh_59.1.2.1 q h9 hq⟩) hh_59.1.2.2 dX5_check_199
            · skip
              have c_28' : word_20.toInt ≤ 4 := jb_gt_n (rfl) ((by decide)) c_28
              refine lv_aload hx hb dX5_check_120 (lv_at hl 5 rfl) ?_
              refine lv_aload_n hx hb dX5_check_122 rfl (lv_at hl 1 rfl) ?_
              refine lv_aload hx hb dX5_check_123 (lv_at hl 5 rfl) ?_
              have hsz_61 := hh_25.2.2.2.2.2.1
              have htt_61 := hh_25.2.2.2.2.2.2.1
              refine W.room (fun hrc_61 hrs_61 => ?_)
              refine va_calli (A0 := jA base) (H0 := s.heap) (va_runV (As := [.ref s.heap.size]) (rest := [.ref s.heap.size]) ⟨hx, hb, hml, hown, hts⟩ (uX5_declare l dC dI ca base B hB hAp hB5 hB7 hB11 hB12 hB101 hB292 G_2 H_25 r0 s.heap.size LC LS) (cwV 1 hts (jgV (jWr_81 _ (List.mem_of_getElem? (i := 4) rfl)) (jWr_81 _ (List.mem_of_getElem? (i := 5) rfl)) (jWr_81 _ (List.mem_of_getElem? (i := 6) rfl)) (jWr_2 _ (List.mem_of_getElem? (i := 4) rfl)) (jWr_81 _ (List.mem_of_getElem? (i := 7) rfl))) rfl rfl rfl (by decide +kernel) ⟨by rw [← hR]; exact Nat.le_of_ble_eq_true rfl, by rw [← hR]; exact Nat.le_of_ble_eq_true rfl⟩) ⟨fun a U g mk q => by obtain ⟨q0, q1, q2, qK, q10, q11, q12, q13⟩ := q; exact ⟨q0, q1, q2, jG.calling g mk a qK, q10, q11, q12, q13⟩, hh_25.recv (C := RX5) (T := TX5) (N := 11) hB7 rfl (by decide) hg_4 hK, fun U hU hW => ⟨rfl, hU, hh_25.2.1, hG.step hW hU hh_25.1, hg_4, hgc_2, jP.nil, (by omega), (by omega), trivial⟩⟩ rfl rfl hl.1 rfl (lv_room (Nat.le_of_ble_eq_true rfl)) dX5_check_125 ⟨by rw [hRc]; omega, by rw [hRs]; omega⟩) hh_25.1 (fun q _ h => h) (fun q h => h) (fun r_62 u_61 t_61 H_61 locs_61 ht_61 hvm_61 hr_62 hb_61 hz_61 hk_61 hS_61 => ?_)
              rw [ht_61] at hb_61
              obtain ⟨G_61, rfl⟩ : ∃ z, z = u_61 := ⟨_, rfl⟩
              try simp only at hb_61
              obtain ⟨⟨hb_611, hb_612, hb_613, hb_614, hb_615, hb_616⟩, hN_61⟩ := hb_61
              have hM_61 := hN_61
              have hN_61 : (jNk [0, 1, 2, 3, 4, 6, 7, 8, 9, 10, 12, 13, 14, 15, 16]) G_2 G_61 := hN_61.sub (by decide)
              have hh_61 : jSt (dC, dI) B base G0 G_61 EX5_check s.heap (((0 + 1) + (5)) + (1)) (((0 + 9) + (0)) + (17)) [(s.heap.size, 11, 6, .int lemma_24), (syntax_12, 12, 5, .int word_20), (r0, 7, 1, .ref syntax_12), (s.heap.size, 11, 2, .int a3)] [] [(jFs11, jSef dC dI G_2)] H_61 locs_61 := (hh_25.callG hb_611 hb_612 hb_613 hb_614 hb_615 hS_61 rfl (L1 := [(s.heap.size, 11, 6, .int lemma_24), (syntax_12, 12, 5, .int word_20), (r0, 7, 1, .ref syntax_12), (s.heap.size, 11, 2, .int a3)]) [0, 1, 2, 3] rfl rfl (M1 := []) [] rfl rfl (I1 := [(jFs11, jSef dC dI G_2)]) [0] rfl rfl).more hb_616
              have hNn_61 : (jNk [0, 1, 2, 3, 4, 6, 7, 8, 9, 10, 12, 13, 14, 15, 16]) G0 G_61 := (hNn_2).tr hN_61
              have hg_63 := hb_612 _ _ hg_4
              have hg_64 := hb_612 _ _ hg_5
              have hg_65 := hb_612 _ _ hg_6
              have hg_66 := hb_612 _ _ hgc_2
              have hg_67 := hb_612 _ _ hg_syntax_12
              have hd_68 := jSef.grow (hh_61.iv 0 rfl) hb_612 hM_61 (by decide)
              have hh_69 := hh_61.sub (L1 := [(s.heap.size, 11, 6, .int lemma_24), (syntax_12, 12, 5, .int word_20), (r0, 7, 1, .ref syntax_12), (s.heap.size, 11, 2, .int a3)]) [0, 1, 2, 3] rfl (M1 := []) [] rfl (I1 := []) [] rfl
              clear hh_61
              have hh_70 := hh_69.addI (jSef.ie hd_68)
              clear hh_69
              try simp only at hr_62
              refine j7_put hx hb hown hK hh_70 hB hAp hB11 (C := RX9) (T := TX9) (N := 9) rfl (by decide) hg_66 (i := 2) (by decide) hly_11_2 rfl hlk_62 rfl (ty := .int) (v := .int r_62) (by decide +kernel) rfl rfl (⟨_, rfl⟩) rfl (L1 := [(s.heap.size, 11, 6, .int lemma_24), (syntax_12, 12, 5, .int word_20), (r0, 7, 1, .ref syntax_12)]) [0, 1, 2] rfl rfl rfl dX5_check_128 (fun H_71 locs_71 hh_71 => ?_)
              clear hh_70
              refine lv_goto (tgt := 197) hx hb dX5_check_131 (by decide) ?_
              refine lv_aload hx hb dX5_check_197 (lv_at hl 5 rfl) ?_
              have hsz_72 := hh_71.2.2.2.2.2.1
              have htt_72 := hh_71.2.2.2.2.2.2.1
              refine W.room (fun hrc_72 hrs_72 => ?_)
              refine W.widen (k := LC - s.heap.size) (n := LS - jTot s.heap) (by omega) (by omega) ?_
              rw [hQ]
              exact W.aret (v := .ref s.heap.size) hx hb hr (Or.inl ⟨_, rfl⟩) (Or.inr ⟨_, rfl⟩) (fun t ht hW => ⟨⟨.ref s.heap.size, G_61, rfl, ⟨⟨_, rfl, hg_66⟩, trivial⟩, ⟨hh_71.ra (by first | omega | (simp only; omega)) (by first | omega | (simp only; omega)) (M1 := []) [] rfl ht, hNn_61, by rw [ht]; exact hh_71.2.2.2.2.2.2.2.2.sub (L1 := [(jFs11, jSef dC dI G_61)]) [0] rfl⟩⟩, by rw [ht]; try exact hh_71.1.1, fun q h9 hq => by rw [ht]; try exact hh_71.1.2.1 q h9 hq⟩) hh_71.1.2.2 dX5_check_199
          · skip
            have c_27' : w0_21.toInt ≠ w0_25.toInt := jb_eq_n (rfl) (rfl) c_27
            refine lv_aload hx hb dX5_check_100 (lv_at hl 5 rfl) ?_
            refine lv_iconst (v := 4) hx hb dX5_check_102 (by decide) ?_
            refine j7_put hx hb hown hK hh_25 hB hAp hB11 (C := RX9) (T := TX9) (N := 9) rfl (by decide) hgc_2 (i := 2) (by decide) hly_11_2 rfl hlk_62 rfl (ty := .int) (v := .int 4) (by decide +kernel) rfl rfl (⟨_, rfl⟩) rfl (L1 := [(s.heap.size, 11, 6, .int lemma_24), (syntax_12, 12, 5, .int word_20), (r0, 7, 1, .ref syntax_12)]) [0, 1, 2] rfl rfl rfl dX5_check_103 (fun H_73 locs_73 hh_73 => ?_)
            clear hh_25
            refine lv_goto (tgt := 197) hx hb dX5_check_106 (by decide) ?_
            refine lv_aload hx hb dX5_check_197 (lv_at hl 5 rfl) ?_
            have hsz_74 := hh_73.2.2.2.2.2.1
            have htt_74 := hh_73.2.2.2.2.2.2.1
            refine W.room (fun hrc_74 hrs_74 => ?_)
            refine W.widen (k := LC - s.heap.size) (n := LS - jTot s.heap) (by omega) (by omega) ?_
            rw [hQ]
            exact W.aret (v := .ref s.heap.size) hx hb hr (Or.inl ⟨_, rfl⟩) (Or.inr ⟨_, rfl⟩) (fun t ht hW => ⟨⟨.ref s.heap.size, G_2, rfl, ⟨⟨_, rfl, hgc_2⟩, trivial⟩, ⟨hh_73.ra (by first | omega | (simp only; omega)) (by first | omega | (simp only; omega)) (M1 := []) [] rfl ht, hNn_2, by rw [ht]; exact hh_73.2.2.2.2.2.2.2.2.sub (L1 := [(jFs11, jSef dC dI G_2)]) [0] rfl⟩⟩, by rw [ht]; try exact hh_73.1.1, fun q h9 hq => by rw [ht]; try exact hh_73.1.2.1 q h9 hq⟩) hh_73.1.2.2 dX5_check_199
        · skip
          have c_26' : r_17.toInt = 0 := jb_ne_n (rfl) ((by decide)) c_26
          refine lv_aload hx hb dX5_check_84 (lv_at hl 5 rfl) ?_
          refine lv_iconst (v := 3) hx hb dX5_check_86 (by decide) ?_
          refine j7_put hx hb hown hK hh_25 hB hAp hB11 (C := RX9) (T := TX9) (N := 9) rfl (by decide) hgc_2 (i := 2) (by decide) hly_11_2 rfl hlk_62 rfl (ty := .int) (v := .int 3) (by decide +kernel) rfl rfl (⟨_, rfl⟩) rfl (L1 := [(s.heap.size, 11, 6, .int lemma_24), (syntax_12, 12, 5, .int word_20), (r0, 7, 1, .ref syntax_12)]) [0, 1, 2] rfl rfl rfl dX5_check_87 (fun H_75 locs_75 hh_75 => ?_)
          clear hh_25
          refine lv_goto (tgt := 197) hx hb dX5_check_90 (by decide) ?_
          refine lv_aload hx hb dX5_check_197 (lv_at hl 5 rfl) ?_
          have hsz_76 := hh_75.2.2.2.2.2.1
          have htt_76 := hh_75.2.2.2.2.2.2.1
          refine W.room (fun hrc_76 hrs_76 => ?_)
          refine W.widen (k := LC - s.heap.size) (n := LS - jTot s.heap) (by omega) (by omega) ?_
          rw [hQ]
          exact W.aret (v := .ref s.heap.size) hx hb hr (Or.inl ⟨_, rfl⟩) (Or.inr ⟨_, rfl⟩) (fun t ht hW => ⟨⟨.ref s.heap.size, G_2, rfl, ⟨⟨_, rfl, hgc_2⟩, trivial⟩, ⟨hh_75.ra (by first | omega | (simp only; omega)) (by first | omega | (simp only; omega)) (M1 := []) [] rfl ht, hNn_2, by rw [ht]; exact hh_75.2.2.2.2.2.2.2.2.sub (L1 := [(jFs11, jSef dC dI G_2)]) [0] rfl⟩⟩, by rw [ht]; try exact hh_75.1.1, fun q h9 hq => by rw [ht]; try exact hh_75.1.2.1 q h9 hq⟩) hh_75.1.2.2 dX5_check_199
      refine lv_if_lt (tgt := 76) hx hb dX5_check_69 (by decide) (fun c_77 => ?_) (fun c_77 => ?_)
      · skip
        have c_77' : lemma_24.toInt < 0 := jb_lt (rfl) ((by decide)) c_77
        refine lv_iconst (v := 0) hx hb dX5_check_76 (by decide) ?_
        refine W.tight (c2 := ((0 + 1) + (5))) (n2 := ((0 + 9) + (0))) hh_23.2.2.2.2.2.1 hh_23.2.2.2.2.2.2.1 ?_
        exact C77 0 _ _ hh_23 (Or.inl rfl) (trivial) _ (lv_sub hl [1, 2, 3, 4, 5, 6, 0] rfl)
      · skip
        have c_77' : lemma_24.toInt ≥ 0 := jb_lt_n (rfl) ((by decide)) c_77
        refine lv_iconst (v := 1) hx hb dX5_check_72 (by decide) ?_
        refine lv_goto (tgt := 77) hx hb dX5_check_73 (by decide) ?_
        refine W.tight (c2 := ((0 + 1) + (5))) (n2 := ((0 + 9) + (0))) hh_23.2.2.2.2.2.1 hh_23.2.2.2.2.2.2.1 ?_
        exact C77 1 _ _ hh_23 (Or.inr rfl) (trivial) _ (lv_sub hl [1, 2, 3, 4, 5, 6, 0] rfl)
    refine lv_icmp_le (tgt := 61) hx hb dX5_check_54 (by decide) (fun c_78 => ?_) (fun c_78 => ?_)
    · skip
      have c_78' : word_20.toInt ≤ 6 := jb_le (rfl) ((by decide)) c_78
      refine lv_iconst (v := 0) hx hb dX5_check_61 (by decide) ?_
      refine W.tight (c2 := ((0 + 1) + (5))) (n2 := ((0 + 9) + (0))) hh_19.2.2.2.2.2.1 hh_19.2.2.2.2.2.2.1 ?_
      exact C62 0 _ _ hh_19 (Or.inl rfl) (trivial) _ (lv_sub hl [2, 3, 4, 5, 1, 0] rfl)
    · skip
      have c_78' : word_20.toInt > 6 := jb_le_n (rfl) ((by decide)) c_78
      refine lv_iconst (v := 1) hx hb dX5_check_57 (by decide) ?_
      refine lv_goto (tgt := 62) hx hb dX5_check_58 (by decide) ?_
      refine W.tight (c2 := ((0 + 1) + (5))) (n2 := ((0 + 9) + (0))) hh_19.2.2.2.2.2.1 hh_19.2.2.2.2.2.2.1 ?_
      exact C62 1 _ _ hh_19 (Or.inr rfl) (trivial) _ (lv_sub hl [2, 3, 4, 5, 1, 0] rfl)
  · skip
    have c_9' : a3.toInt > 0 := jb_le_n (rfl) ((by decide)) c_9
    refine lv_aload hx hb dX5_check_21 (lv_at hl 0 rfl) ?_
    have hsz_79 := hh_8.2.2.2.2.2.1
    have htt_79 := hh_8.2.2.2.2.2.2.1
    refine W.room (fun hrc_79 hrs_79 => ?_)
    refine W.widen (k := LC - s.heap.size) (n := LS - jTot s.heap) (by omega) (by omega) ?_
    rw [hQ]
    exact W.aret (v := .ref s.heap.size) hx hb hr (Or.inl ⟨_, rfl⟩) (Or.inr ⟨_, rfl⟩) (fun t ht hW => ⟨⟨.ref s.heap.size, G_2, rfl, ⟨⟨_, rfl, hgc_2⟩, trivial⟩, ⟨hh_8.ra (by first | omega | (simp only; omega)) (by first | omega | (simp only; omega)) (M1 := []) [] rfl ht, hNn_2, by rw [ht]; exact hh_8.2.2.2.2.2.2.2.2.sub (L1 := [(jFs11, jSef dC dI G_2)]) [0] rfl⟩⟩, by rw [ht]; try exact hh_8.1.1, fun q h9 hq => by rw [ht]; try exact hh_8.1.2.1 q h9 hq⟩) hh_8.1.2.2 dX5_check_23
