section
theorem dX13_withParts_0 : decode cX13_withParts 0 = .ok (.aload_n 0, 1) := by decide +kernel
theorem dX13_withParts_1 : decode cX13_withParts 1 = .ok (.getfield 25, 3) := by decide +kernel
theorem dX13_withParts_4 : decode cX13_withParts 4 = .ok (.iload_n 3, 1) := by decide +kernel
theorem dX13_withParts_5 : decode cX13_withParts 5 = .ok (.iaload, 1) := by decide +kernel
theorem dX13_withParts_6 : decode cX13_withParts 6 = .ok (.istore 4, 2) := by decide +kernel
theorem dX13_withParts_8 : decode cX13_withParts 8 = .ok (.iconst 0, 1) := by decide +kernel
theorem dX13_withParts_9 : decode cX13_withParts 9 = .ok (.istore 5, 2) := by decide +kernel
theorem dX13_withParts_11 : decode cX13_withParts 11 = .ok (.iconst 0, 1) := by decide +kernel
theorem dX13_withParts_12 : decode cX13_withParts 12 = .ok (.istore 6, 2) := by decide +kernel
theorem dX13_withParts_14 : decode cX13_withParts 14 = .ok (.iconst 0, 1) := by decide +kernel
theorem dX13_withParts_15 : decode cX13_withParts 15 = .ok (.istore 7, 2) := by decide +kernel
theorem dX13_withParts_17 : decode cX13_withParts 17 = .ok (.iload 4, 2) := by decide +kernel
theorem dX13_withParts_19 : decode cX13_withParts 19 = .ok (.ifCond .le 15, 3) := by decide +kernel
theorem dX13_withParts_22 : decode cX13_withParts 22 = .ok (.aload_n 0, 1) := by decide +kernel
theorem dX13_withParts_23 : decode cX13_withParts 23 = .ok (.aload_n 0, 1) := by decide +kernel
theorem dX13_withParts_24 : decode cX13_withParts 24 = .ok (.getfield 19, 3) := by decide +kernel
theorem dX13_withParts_27 : decode cX13_withParts 27 = .ok (.iload_n 3, 1) := by decide +kernel
theorem dX13_withParts_28 : decode cX13_withParts 28 = .ok (.iaload, 1) := by decide +kernel
theorem dX13_withParts_29 : decode cX13_withParts 29 = .ok (.invokevirtual 239, 3) := by decide +kernel
theorem dX13_withParts_32 : decode cX13_withParts 32 = .ok (.istore 5, 2) := by decide +kernel
theorem dX13_withParts_34 : decode cX13_withParts 34 = .ok (.iload 4, 2) := by decide +kernel
theorem dX13_withParts_36 : decode cX13_withParts 36 = .ok (.iconst 1, 1) := by decide +kernel
theorem dX13_withParts_37 : decode cX13_withParts 37 = .ok (.if_icmp .le 20, 3) := by decide +kernel
theorem dX13_withParts_40 : decode cX13_withParts 40 = .ok (.aload_n 0, 1) := by decide +kernel
theorem dX13_withParts_41 : decode cX13_withParts 41 = .ok (.aload_n 0, 1) := by decide +kernel
theorem dX13_withParts_42 : decode cX13_withParts 42 = .ok (.getfield 22, 3) := by decide +kernel
theorem dX13_withParts_45 : decode cX13_withParts 45 = .ok (.aload_n 0, 1) := by decide +kernel
theorem dX13_withParts_46 : decode cX13_withParts 46 = .ok (.getfield 19, 3) := by decide +kernel
theorem dX13_withParts_49 : decode cX13_withParts 49 = .ok (.iload_n 3, 1) := by decide +kernel
theorem dX13_withParts_50 : decode cX13_withParts 50 = .ok (.iaload, 1) := by decide +kernel
theorem dX13_withParts_51 : decode cX13_withParts 51 = .ok (.iaload, 1) := by decide +kernel
theorem dX13_withParts_52 : decode cX13_withParts 52 = .ok (.invokevirtual 239, 3) := by decide +kernel
theorem dX13_withParts_55 : decode cX13_withParts 55 = .ok (.istore 6, 2) := by decide +kernel
theorem dX13_withParts_57 : decode cX13_withParts 57 = .ok (.iload 4, 2) := by decide +kernel
theorem dX13_withParts_59 : decode cX13_withParts 59 = .ok (.iconst 2, 1) := by decide +kernel
theorem dX13_withParts_60 : decode cX13_withParts 60 = .ok (.if_icmp .le 25, 3) := by decide +kernel
theorem dX13_withParts_63 : decode cX13_withParts 63 = .ok (.aload_n 0, 1) := by decide +kernel
theorem dX13_withParts_64 : decode cX13_withParts 64 = .ok (.aload_n 0, 1) := by decide +kernel
theorem dX13_withParts_65 : decode cX13_withParts 65 = .ok (.getfield 22, 3) := by decide +kernel
theorem dX13_withParts_68 : decode cX13_withParts 68 = .ok (.aload_n 0, 1) := by decide +kernel
theorem dX13_withParts_69 : decode cX13_withParts 69 = .ok (.getfield 22, 3) := by decide +kernel
theorem dX13_withParts_72 : decode cX13_withParts 72 = .ok (.aload_n 0, 1) := by decide +kernel
theorem dX13_withParts_73 : decode cX13_withParts 73 = .ok (.getfield 19, 3) := by decide +kernel
theorem dX13_withParts_76 : decode cX13_withParts 76 = .ok (.iload_n 3, 1) := by decide +kernel
theorem dX13_withParts_77 : decode cX13_withParts 77 = .ok (.iaload, 1) := by decide +kernel
theorem dX13_withParts_78 : decode cX13_withParts 78 = .ok (.iaload, 1) := by decide +kernel
theorem dX13_withParts_79 : decode cX13_withParts 79 = .ok (.iaload, 1) := by decide +kernel
theorem dX13_withParts_80 : decode cX13_withParts 80 = .ok (.invokevirtual 239, 3) := by decide +kernel
theorem dX13_withParts_83 : decode cX13_withParts 83 = .ok (.istore 7, 2) := by decide +kernel
theorem dX13_withParts_85 : decode cX13_withParts 85 = .ok (.aload_n 0, 1) := by decide +kernel
theorem dX13_withParts_86 : decode cX13_withParts 86 = .ok (.iload_n 1, 1) := by decide +kernel
theorem dX13_withParts_87 : decode cX13_withParts 87 = .ok (.iload_n 2, 1) := by decide +kernel
theorem dX13_withParts_88 : decode cX13_withParts 88 = .ok (.iload 5, 2) := by decide +kernel
theorem dX13_withParts_90 : decode cX13_withParts 90 = .ok (.iload 6, 2) := by decide +kernel
theorem dX13_withParts_92 : decode cX13_withParts 92 = .ok (.iload 7, 2) := by decide +kernel
theorem dX13_withParts_94 : decode cX13_withParts 94 = .ok (.invokevirtual 197, 3) := by decide +kernel
theorem dX13_withParts_97 : decode cX13_withParts 97 = .ok (.ireturn, 1) := by decide +kernel
theorem dX13_meantTerm_0 : decode cX13_meantTerm 0 = .ok (.aload_n 0, 1) := by decide +kernel
theorem dX13_meantTerm_1 : decode cX13_meantTerm 1 = .ok (.getfield 221, 3) := by decide +kernel
theorem dX13_meantTerm_4 : decode cX13_meantTerm 4 = .ok (.ifCond .le 5, 3) := by decide +kernel
theorem dX13_meantTerm_7 : decode cX13_meantTerm 7 = .ok (.iconst 0, 1) := by decide +kernel
theorem dX13_meantTerm_8 : decode cX13_meantTerm 8 = .ok (.ireturn, 1) := by decide +kernel
theorem dX13_meantTerm_9 : decode cX13_meantTerm 9 = .ok (.aload_n 0, 1) := by decide +kernel
theorem dX13_meantTerm_10 : decode cX13_meantTerm 10 = .ok (.getfield 16, 3) := by decide +kernel
theorem dX13_meantTerm_13 : decode cX13_meantTerm 13 = .ok (.iload_n 1, 1) := by decide +kernel
theorem dX13_meantTerm_14 : decode cX13_meantTerm 14 = .ok (.iaload, 1) := by decide +kernel
theorem dX13_meantTerm_15 : decode cX13_meantTerm 15 = .ok (.istore_n 2, 1) := by decide +kernel
theorem dX13_meantTerm_16 : decode cX13_meantTerm 16 = .ok (.aload_n 0, 1) := by decide +kernel
theorem dX13_meantTerm_17 : decode cX13_meantTerm 17 = .ok (.getfield 242, 3) := by decide +kernel
theorem dX13_meantTerm_20 : decode cX13_meantTerm 20 = .ok (.iconst 1, 1) := by decide +kernel
theorem dX13_meantTerm_21 : decode cX13_meantTerm 21 = .ok (.isub, 1) := by decide +kernel
theorem dX13_meantTerm_22 : decode cX13_meantTerm 22 = .ok (.istore_n 3, 1) := by decide +kernel
theorem dX13_meantTerm_23 : decode cX13_meantTerm 23 = .ok (.iload_n 3, 1) := by decide +kernel
theorem dX13_meantTerm_24 : decode cX13_meantTerm 24 = .ok (.ifCond .lt 54, 3) := by decide +kernel
theorem dX13_meantTerm_27 : decode cX13_meantTerm 27 = .ok (.aload_n 0, 1) := by decide +kernel
theorem dX13_meantTerm_28 : decode cX13_meantTerm 28 = .ok (.getfield 77, 3) := by decide +kernel
theorem dX13_meantTerm_31 : decode cX13_meantTerm 31 = .ok (.iload_n 3, 1) := by decide +kernel
theorem dX13_meantTerm_32 : decode cX13_meantTerm 32 = .ok (.iaload, 1) := by decide +kernel
theorem dX13_meantTerm_33 : decode cX13_meantTerm 33 = .ok (.iload_n 2, 1) := by decide +kernel
theorem dX13_meantTerm_34 : decode cX13_meantTerm 34 = .ok (.if_icmp .eq 6, 3) := by decide +kernel
theorem dX13_meantTerm_37 : decode cX13_meantTerm 37 = .ok (.goto 35, 3) := by decide +kernel
theorem dX13_meantTerm_40 : decode cX13_meantTerm 40 = .ok (.aload_n 0, 1) := by decide +kernel
theorem dX13_meantTerm_41 : decode cX13_meantTerm 41 = .ok (.getfield 25, 3) := by decide +kernel
theorem dX13_meantTerm_44 : decode cX13_meantTerm 44 = .ok (.iload_n 1, 1) := by decide +kernel
theorem dX13_meantTerm_45 : decode cX13_meantTerm 45 = .ok (.iaload, 1) := by decide +kernel
theorem dX13_meantTerm_46 : decode cX13_meantTerm 46 = .ok (.ifCond .le 8, 3) := by decide +kernel
theorem dX13_meantTerm_49 : decode cX13_meantTerm 49 = .ok (.aload_n 0, 1) := by decide +kernel
theorem dX13_meantTerm_50 : decode cX13_meantTerm 50 = .ok (.iconst 5, 1) := by decide +kernel
theorem dX13_meantTerm_51 : decode cX13_meantTerm 51 = .ok (.invokevirtual 236, 3) := by decide +kernel
theorem dX13_meantTerm_54 : decode cX13_meantTerm 54 = .ok (.aload_n 0, 1) := by decide +kernel
theorem dX13_meantTerm_55 : decode cX13_meantTerm 55 = .ok (.bipush 10, 2) := by decide +kernel
theorem dX13_meantTerm_57 : decode cX13_meantTerm 57 = .ok (.aload_n 0, 1) := by decide +kernel
theorem dX13_meantTerm_58 : decode cX13_meantTerm 58 = .ok (.getfield 242, 3) := by decide +kernel
theorem dX13_meantTerm_61 : decode cX13_meantTerm 61 = .ok (.iconst 1, 1) := by decide +kernel
theorem dX13_meantTerm_62 : decode cX13_meantTerm 62 = .ok (.isub, 1) := by decide +kernel
theorem dX13_meantTerm_63 : decode cX13_meantTerm 63 = .ok (.iload_n 3, 1) := by decide +kernel
theorem dX13_meantTerm_64 : decode cX13_meantTerm 64 = .ok (.isub, 1) := by decide +kernel
theorem dX13_meantTerm_65 : decode cX13_meantTerm 65 = .ok (.iconst 0, 1) := by decide +kernel
theorem dX13_meantTerm_66 : decode cX13_meantTerm 66 = .ok (.iconst 0, 1) := by decide +kernel
theorem dX13_meantTerm_67 : decode cX13_meantTerm 67 = .ok (.iconst 0, 1) := by decide +kernel
theorem dX13_meantTerm_68 : decode cX13_meantTerm 68 = .ok (.invokevirtual 197, 3) := by decide +kernel
theorem dX13_meantTerm_71 : decode cX13_meantTerm 71 = .ok (.ireturn, 1) := by decide +kernel
theorem dX13_meantTerm_72 : decode cX13_meantTerm 72 = .ok (.iinc 3 (-1), 3) := by decide +kernel
theorem dX13_meantTerm_75 : decode cX13_meantTerm 75 = .ok (.goto (-52), 3) := by decide +kernel
theorem dX13_meantTerm_78 : decode cX13_meantTerm 78 = .ok (.aload_n 0, 1) := by decide +kernel
theorem dX13_meantTerm_79 : decode cX13_meantTerm 79 = .ok (.iload_n 2, 1) := by decide +kernel
theorem dX13_meantTerm_80 : decode cX13_meantTerm 80 = .ok (.invokevirtual 230, 3) := by decide +kernel
theorem dX13_meantTerm_83 : decode cX13_meantTerm 83 = .ok (.ifCond .eq 28, 3) := by decide +kernel
theorem dX13_meantTerm_86 : decode cX13_meantTerm 86 = .ok (.aload_n 0, 1) := by decide +kernel
theorem dX13_meantTerm_87 : decode cX13_meantTerm 87 = .ok (.getfield 25, 3) := by decide +kernel
theorem dX13_meantTerm_90 : decode cX13_meantTerm 90 = .ok (.iload_n 1, 1) := by decide +kernel
theorem dX13_meantTerm_91 : decode cX13_meantTerm 91 = .ok (.iaload, 1) := by decide +kernel
theorem dX13_meantTerm_92 : decode cX13_meantTerm 92 = .ok (.ifCond .le 8, 3) := by decide +kernel
theorem dX13_meantTerm_95 : decode cX13_meantTerm 95 = .ok (.aload_n 0, 1) := by decide +kernel
theorem dX13_meantTerm_96 : decode cX13_meantTerm 96 = .ok (.iconst 5, 1) := by decide +kernel
theorem dX13_meantTerm_97 : decode cX13_meantTerm 97 = .ok (.invokevirtual 236, 3) := by decide +kernel
theorem dX13_meantTerm_100 : decode cX13_meantTerm 100 = .ok (.aload_n 0, 1) := by decide +kernel
theorem dX13_meantTerm_101 : decode cX13_meantTerm 101 = .ok (.bipush 9, 2) := by decide +kernel
theorem dX13_meantTerm_103 : decode cX13_meantTerm 103 = .ok (.iload_n 2, 1) := by decide +kernel
theorem dX13_meantTerm_104 : decode cX13_meantTerm 104 = .ok (.iconst 0, 1) := by decide +kernel
theorem dX13_meantTerm_105 : decode cX13_meantTerm 105 = .ok (.iconst 0, 1) := by decide +kernel
theorem dX13_meantTerm_106 : decode cX13_meantTerm 106 = .ok (.iconst 0, 1) := by decide +kernel
theorem dX13_meantTerm_107 : decode cX13_meantTerm 107 = .ok (.invokevirtual 197, 3) := by decide +kernel
theorem dX13_meantTerm_110 : decode cX13_meantTerm 110 = .ok (.ireturn, 1) := by decide +kernel
theorem dX13_meantTerm_111 : decode cX13_meantTerm 111 = .ok (.aload_n 0, 1) := by decide +kernel
theorem dX13_meantTerm_112 : decode cX13_meantTerm 112 = .ok (.iload_n 2, 1) := by decide +kernel
theorem dX13_meantTerm_113 : decode cX13_meantTerm 113 = .ok (.invokevirtual 224, 3) := by decide +kernel
theorem dX13_meantTerm_116 : decode cX13_meantTerm 116 = .ok (.istore_n 3, 1) := by decide +kernel
theorem dX13_meantTerm_117 : decode cX13_meantTerm 117 = .ok (.iload_n 3, 1) := by decide +kernel
theorem dX13_meantTerm_118 : decode cX13_meantTerm 118 = .ok (.ifCond .lt 27, 3) := by decide +kernel
theorem dX13_meantTerm_121 : decode cX13_meantTerm 121 = .ok (.aload_n 0, 1) := by decide +kernel
theorem dX13_meantTerm_122 : decode cX13_meantTerm 122 = .ok (.getfield 40, 3) := by decide +kernel
theorem dX13_meantTerm_125 : decode cX13_meantTerm 125 = .ok (.iload_n 3, 1) := by decide +kernel
theorem dX13_meantTerm_126 : decode cX13_meantTerm 126 = .ok (.baload, 1) := by decide +kernel
theorem dX13_meantTerm_127 : decode cX13_meantTerm 127 = .ok (.ifCond .ne 18, 3) := by decide +kernel
theorem dX13_meantTerm_130 : decode cX13_meantTerm 130 = .ok (.aload_n 0, 1) := by decide +kernel
theorem dX13_meantTerm_131 : decode cX13_meantTerm 131 = .ok (.getfield 44, 3) := by decide +kernel
theorem dX13_meantTerm_134 : decode cX13_meantTerm 134 = .ok (.iload_n 3, 1) := by decide +kernel
theorem dX13_meantTerm_135 : decode cX13_meantTerm 135 = .ok (.iaload, 1) := by decide +kernel
theorem dX13_meantTerm_136 : decode cX13_meantTerm 136 = .ok (.aload_n 0, 1) := by decide +kernel
theorem dX13_meantTerm_137 : decode cX13_meantTerm 137 = .ok (.getfield 25, 3) := by decide +kernel
theorem dX13_meantTerm_140 : decode cX13_meantTerm 140 = .ok (.iload_n 1, 1) := by decide +kernel
theorem dX13_meantTerm_141 : decode cX13_meantTerm 141 = .ok (.iaload, 1) := by decide +kernel
theorem dX13_meantTerm_142 : decode cX13_meantTerm 142 = .ok (.if_icmp .eq 10, 3) := by decide +kernel
theorem dX13_meantTerm_145 : decode cX13_meantTerm 145 = .ok (.aload_n 0, 1) := by decide +kernel
theorem dX13_meantTerm_146 : decode cX13_meantTerm 146 = .ok (.iconst 5, 1) := by decide +kernel
theorem dX13_meantTerm_147 : decode cX13_meantTerm 147 = .ok (.invokevirtual 236, 3) := by decide +kernel
theorem dX13_meantTerm_150 : decode cX13_meantTerm 150 = .ok (.iconst 0, 1) := by decide +kernel
theorem dX13_meantTerm_151 : decode cX13_meantTerm 151 = .ok (.ireturn, 1) := by decide +kernel
theorem dX13_meantTerm_152 : decode cX13_meantTerm 152 = .ok (.aload_n 0, 1) := by decide +kernel
theorem dX13_meantTerm_153 : decode cX13_meantTerm 153 = .ok (.bipush 8, 2) := by decide +kernel
theorem dX13_meantTerm_155 : decode cX13_meantTerm 155 = .ok (.iload_n 3, 1) := by decide +kernel
theorem dX13_meantTerm_156 : decode cX13_meantTerm 156 = .ok (.iload_n 1, 1) := by decide +kernel
theorem dX13_meantTerm_157 : decode cX13_meantTerm 157 = .ok (.invokevirtual 245, 3) := by decide +kernel
theorem dX13_meantTerm_160 : decode cX13_meantTerm 160 = .ok (.ireturn, 1) := by decide +kernel
def EX13_withParts : List (Nat × Nat) := [(15, 5), (15, 34), (150, 0), (151, 0), (152, 0), (153, 0), (154, 0)]
def EX13_meantTerm : List (Nat × Nat) := [(15, 5), (15, 34), (150, 0), (151, 0), (152, 0), (153, 0), (154, 0)]
def qX13_withParts (l : Launch) (dC : Nat → ClassId) (dI : Nat → Nat → Nat) (ca : Nat → ClassId) (base : Nat) (B : jF) (d : Nat) : Prop := ∀ (G0 : jT) (H0 : Heap) (r0 : Nat) (a1 : Int32) (a2 : Int32) (a3 : Int32) (pn : Int32) (pu : Int32) (py : Int32) (pb : Int32) (zs : Nat) (zn : Nat) (za : Nat) (zb : Nat) (zc : Nat) (zy : Nat) (hi : Int) (C : jK), Met l yX13_withParts (jw yX13_withParts cX13_withParts 8 (some .int)) ({ frames := 2 * d + 3, cells := 0, slots := 0, locals := 60 * d + 165 }) (va_Pc [.ref r0, .int a1, .int a2, .int a3] (fun U => U.heap = H0 ∧ jX B base G0 [] H0 ∧ jG dC dI ca base U ∧ G0 r0 = some (15, 0) ∧ G0 zs = some (150, 120000) ∧ G0 zn = some (151, 120000) ∧ G0 za = some (152, 120000) ∧ G0 zb = some (153, 120000) ∧ G0 zc = some (154, 120000) ∧ G0 zy = some (165, 16) ∧ jP (dC, dI) G0 H0 [(r0, 15, 5, .int pn), (r0, 15, 34, .int pu), (r0, 15, 11, .int py), (r0, 15, 36, .int pb), (r0, 15, 0, .ref zs), (r0, 15, 1, .ref zn), (r0, 15, 2, .ref za), (r0, 15, 3, .ref zb), (r0, 15, 4, .ref zc), (r0, 15, 14, .ref zy)] ∧ jMc (dC, dI) G0 H0 [(zs, 150, 120000, ca 1, C.s), (zn, 151, 120000, ca 1, C.n), (za, 152, 120000, ca 1, C.a), (zb, 153, 120000, ca 1, C.b), (zc, 154, 120000, ca 1, C.c), (zy, 165, 16, ca 1, C.y)] ∧ jRtm C d a3.toInt hi ∧ hi ≤ pn.toInt ∧ jSo C.y a2.toInt = jSo C.c a3.toInt ∧ pn.toInt + (hi - a3.toInt) ≤ 119999 ∧ 0 ≤ pu.toInt ∧ pu.toInt ≤ 9 ∧ 0 ≤ py.toInt ∧ py.toInt ≤ 16 ∧ 0 ≤ pb.toInt ∧ pb.toInt ≤ 199 ∧ 0 ≤ pn.toInt ∧ d ≤ 20 ∧ jSo C.c a3.toInt ≤ 3 ∧ 7 ≤ a1.toInt ∧ a1.toInt ≤ 8 ∧ 0 ≤ a2.toInt ∧ a2.toInt < py.toInt)) (va_Qi (S := Int32 × Int32 × jK) (fun r u => (pn.toInt ≤ u.1.toInt ∧ u.1.toInt ≤ pn.toInt + (hi - a3.toInt) ∧ pu.toInt ≤ u.2.1.toInt ∧ u.2.1.toInt ≤ 9 ∧ jAgK C u.2.2 pn.toInt ∧ (u.2.1.toInt ≤ 0 → jFm u.2.2 u.1.toInt py.toInt d pb.toInt r.toInt ∧ jsz u.2.2 r.toInt ≤ hi - a3.toInt))) (fun u t => jRt (dC, dI) B base G0 EX13_withParts H0 [(r0, 15, 5, .int u.1), (r0, 15, 34, .int u.2.1)] t.heap ∧ jMc (dC, dI) G0 t.heap [(zs, 150, 120000, ca 1, u.2.2.s), (zn, 151, 120000, ca 1, u.2.2.n), (za, 152, 120000, ca 1, u.2.2.a), (zb, 153, 120000, ca 1, u.2.2.b), (zc, 154, 120000, ca 1, u.2.2.c), (zy, 165, 16, ca 1, u.2.2.y)]) (jA base)) 0 0 (jA base)
def qX13_meantTerm (l : Launch) (dC : Nat → ClassId) (dI : Nat → Nat → Nat) (ca : Nat → ClassId) (base : Nat) (B : jF) (d : Nat) : Prop := ∀ (G0 : jT) (H0 : Heap) (r0 : Nat) (a1 : Int32) (pn : Int32) (pu : Int32) (py : Int32) (pb : Int32) (zs : Nat) (zn : Nat) (za : Nat) (zb : Nat) (zc : Nat) (zy : Nat) (hi : Int) (C : jK), Met l yX13_meantTerm (jw yX13_meantTerm cX13_meantTerm 4 (some .int)) ({ frames := 2 * d + 4, cells := 0, slots := 0, locals := 60 * d + 200 }) (va_Pc [.ref r0, .int a1] (fun U => U.heap = H0 ∧ jX B base G0 [] H0 ∧ jG dC dI ca base U ∧ G0 r0 = some (15, 0) ∧ G0 zs = some (150, 120000) ∧ G0 zn = some (151, 120000) ∧ G0 za = some (152, 120000) ∧ G0 zb = some (153, 120000) ∧ G0 zc = some (154, 120000) ∧ G0 zy = some (165, 16) ∧ jP (dC, dI) G0 H0 [(r0, 15, 5, .int pn), (r0, 15, 34, .int pu), (r0, 15, 11, .int py), (r0, 15, 36, .int pb), (r0, 15, 0, .ref zs), (r0, 15, 1, .ref zn), (r0, 15, 2, .ref za), (r0, 15, 3, .ref zb), (r0, 15, 4, .ref zc), (r0, 15, 14, .ref zy)] ∧ jMc (dC, dI) G0 H0 [(zs, 150, 120000, ca 1, C.s), (zn, 151, 120000, ca 1, C.n), (za, 152, 120000, ca 1, C.a), (zb, 153, 120000, ca 1, C.b), (zc, 154, 120000, ca 1, C.c), (zy, 165, 16, ca 1, C.y)] ∧ jRtm C d a1.toInt hi ∧ hi ≤ pn.toInt ∧ pn.toInt + (hi - a1.toInt) ≤ 119999 ∧ 0 ≤ pu.toInt ∧ pu.toInt ≤ 9 ∧ 0 ≤ py.toInt ∧ py.toInt ≤ 16 ∧ 0 ≤ pb.toInt ∧ pb.toInt ≤ 199 ∧ 0 ≤ pn.toInt ∧ d ≤ 20)) (va_Qi (S := Int32 × Int32 × jK) (fun r u => (pn.toInt ≤ u.1.toInt ∧ u.1.toInt ≤ pn.toInt + (hi - a1.toInt) ∧ pu.toInt ≤ u.2.1.toInt ∧ u.2.1.toInt ≤ 9 ∧ jAgK C u.2.2 pn.toInt ∧ (u.2.1.toInt ≤ 0 → jFm u.2.2 u.1.toInt py.toInt d pb.toInt r.toInt ∧ jsz u.2.2 r.toInt ≤ hi - a1.toInt))) (fun u t => jRt (dC, dI) B base G0 EX13_meantTerm H0 [(r0, 15, 5, .int u.1), (r0, 15, 34, .int u.2.1)] t.heap ∧ jMc (dC, dI) G0 t.heap [(zs, 150, 120000, ca 1, u.2.2.s), (zn, 151, 120000, ca 1, u.2.2.n), (za, 152, 120000, ca 1, u.2.2.a), (zb, 153, 120000, ca 1, u.2.2.b), (zc, 154, 120000, ca 1, u.2.2.c), (zy, 165, 16, ca 1, u.2.2.y)]) (jA base)) 0 0 (jA base)
set_option maxHeartbeats 4000000 in
set_option maxRecDepth 20000 in
theorem uX13_withParts (l : Launch) (dC : Nat → ClassId) (dI : Nat → Nat → Nat) (ca : Nat → ClassId) (base : Nat) (B : jF) (hB : jBok B) (hAp : jAp (dC, dI)) (hB15 : ∀ n G a H, B 15 n G a H ↔ jOb (dC, dI) 15 50 (F15 n G) a H) (hB103 : ∀ n G a H, B 103 n G a H ↔ jAr (dC, dI) (ca 3) (fun j z => (z = 0 ∨ z = 1)) n a H) (hB150 : ∀ n G a H, B 150 n G a H ↔ jAr (dC, dI) (ca 1) (fun j z => True) n a H) (hB151 : ∀ n G a H, B 151 n G a H ↔ jAr (dC, dI) (ca 1) (fun j z => True) n a H) (hB152 : ∀ n G a H, B 152 n G a H ↔ jAr (dC, dI) (ca 1) (fun j z => True) n a H) (hB153 : ∀ n G a H, B 153 n G a H ↔ jAr (dC, dI) (ca 1) (fun j z => True) n a H) (hB154 : ∀ n G a H, B 154 n G a H ↔ jAr (dC, dI) (ca 1) (fun j z => True) n a H) (hB158 : ∀ n G a H, B 158 n G a H ↔ jAr (dC, dI) (ca 1) (fun j z => 0 ≤ z.toInt ∧ z.toInt ≤ 6) n a H) (hB163 : ∀ n G a H, B 163 n G a H ↔ jAr (dC, dI) (ca 1) (fun j z => 0 ≤ z.toInt ∧ z.toInt ≤ 1599) n a H) (hB165 : ∀ n G a H, B 165 n G a H ↔ jAr (dC, dI) (ca 1) (fun j z => 0 ≤ z.toInt ∧ z.toInt ≤ 3) n a H) (d : Nat) (ih : ∀ e1, e1 < d → qX13_meantTerm l dC dI ca base B e1) (G0 : jT) (H0 : Heap) (r0 : Nat) (a1 : Int32) (a2 : Int32) (a3 : Int32) (pn : Int32) (pu : Int32) (py : Int32) (pb : Int32) (zs : Nat) (zn : Nat) (za : Nat) (zb : Nat) (zc : Nat) (zy : Nat) (hi : Int) (C : jK) : Met l yX13_withParts (jw yX13_withParts cX13_withParts 8 (some .int)) ({ frames := 2 * d + 3, cells := 0, slots := 0, locals := 60 * d + 165 }) (va_Pc [.ref r0, .int a1, .int a2, .int a3] (fun U => U.heap = H0 ∧ jX B base G0 [] H0 ∧ jG dC dI ca base U ∧ G0 r0 = some (15, 0) ∧ G0 zs = some (150, 120000) ∧ G0 zn = some (151, 120000) ∧ G0 za = some (152, 120000) ∧ G0 zb = some (153, 120000) ∧ G0 zc = some (154, 120000) ∧ G0 zy = some (165, 16) ∧ jP (dC, dI) G0 H0 [(r0, 15, 5, .int pn), (r0, 15, 34, .int pu), (r0, 15, 11, .int py), (r0, 15, 36, .int pb), (r0, 15, 0, .ref zs), (r0, 15, 1, .ref zn), (r0, 15, 2, .ref za), (r0, 15, 3, .ref zb), (r0, 15, 4, .ref zc), (r0, 15, 14, .ref zy)] ∧ jMc (dC, dI) G0 H0 [(zs, 150, 120000, ca 1, C.s), (zn, 151, 120000, ca 1, C.n), (za, 152, 120000, ca 1, C.a), (zb, 153, 120000, ca 1, C.b), (zc, 154, 120000, ca 1, C.c), (zy, 165, 16, ca 1, C.y)] ∧ jRtm C d a3.toInt hi ∧ hi ≤ pn.toInt ∧ jSo C.y a2.toInt = jSo C.c a3.toInt ∧ pn.toInt + (hi - a3.toInt) ≤ 119999 ∧ 0 ≤ pu.toInt ∧ pu.toInt ≤ 9 ∧ 0 ≤ py.toInt ∧ py.toInt ≤ 16 ∧ 0 ≤ pb.toInt ∧ pb.toInt ≤ 199 ∧ 0 ≤ pn.toInt ∧ d ≤ 20 ∧ jSo C.c a3.toInt ≤ 3 ∧ 7 ≤ a1.toInt ∧ a1.toInt ≤ 8 ∧ 0 ≤ a2.toInt ∧ a2.toInt < py.toInt)) (va_Qi (S := Int32 × Int32 × jK) (fun r u => (pn.toInt ≤ u.1.toInt ∧ u.1.toInt ≤ pn.toInt + (hi - a3.toInt) ∧ pu.toInt ≤ u.2.1.toInt ∧ u.2.1.toInt ≤ 9 ∧ jAgK C u.2.2 pn.toInt ∧ (u.2.1.toInt ≤ 0 → jFm u.2.2 u.1.toInt py.toInt d pb.toInt r.toInt ∧ jsz u.2.2 r.toInt ≤ hi - a3.toInt))) (fun u t => jRt (dC, dI) B base G0 EX13_withParts H0 [(r0, 15, 5, .int u.1), (r0, 15, 34, .int u.2.1)] t.heap ∧ jMc (dC, dI) G0 t.heap [(zs, 150, 120000, ca 1, u.2.2.s), (zn, 151, 120000, ca 1, u.2.2.n), (za, 152, 120000, ca 1, u.2.2.a), (zb, 153, 120000, ca 1, u.2.2.b), (zc, 154, 120000, ca 1, u.2.2.c), (zy, 165, 16, ca 1, u.2.2.y)]) (jA base)) 0 0 (jA base) := by
  refine Met.ofW (cc := cX13_withParts) (maxL := 8) (ret := (some .int)) (by decide) rfl ?_
  intro p e s m args below meth c s₁ Bd hml hv
  obtain ⟨rfl, hH0, hX, hG, hg_r0, hg_zs, hg_zn, hg_za, hg_zb, hg_zc, hg_zy, hP0, hM0, hp0, hp1, hp2, hp3, hp4, hp5, hp6, hp7, hp8, hp9, hp10, hp11, hp12, hp13, hp14, hp15, hp16⟩ := hv
  have hK := hG.1
  have hx := Bd.exec
  have hb := Bd.bytes
  have hr := Bd.returns
  have hts := atoms_spec (ws := (jw yX13_withParts cX13_withParts 8 (some .int))) Bd.pre
  have htw : ∀ w ∈ jWl, w.before _ s = true := fun w h => hts w (List.mem_cons_of_mem _ h)
  have hown : s.vm.findClass RX13 = some m.cls := findClass_of_methodNamed Bd.named
  have hlocks := Bd.notSynchronized
  obtain ⟨Q, hQ⟩ : ∃ Q, Q = MQ below (va_Qi (S := Int32 × Int32 × jK) (fun r u => (pn.toInt ≤ u.1.toInt ∧ u.1.toInt ≤ pn.toInt + (hi - a3.toInt) ∧ pu.toInt ≤ u.2.1.toInt ∧ u.2.1.toInt ≤ 9 ∧ jAgK C u.2.2 pn.toInt ∧ (u.2.1.toInt ≤ 0 → jFm u.2.2 u.1.toInt py.toInt d pb.toInt r.toInt ∧ jsz u.2.2 r.toInt ≤ hi - a3.toInt))) (fun u t => jRt (dC, dI) B base G0 EX13_withParts H0 [(r0, 15, 5, .int u.1), (r0, 15, 34, .int u.2.1)] t.heap ∧ jMc (dC, dI) G0 t.heap [(zs, 150, 120000, ca 1, u.2.2.s), (zn, 151, 120000, ca 1, u.2.2.n), (za, 152, 120000, ca 1, u.2.2.a), (zb, 153, 120000, ca 1, u.2.2.b), (zc, 154, 120000, ca 1, u.2.2.c), (zy, 165, 16, ca 1, u.2.2.y)]) (jA base)) ([.ref r0, .int a1, .int a2, .int a3] : List Value).toArray s 0 0 (jA base) := ⟨_, rfl⟩
  rw [← hQ]
  have hl := lv_entry ([.ref r0, .int a1, .int a2, .int a3]) (n := 8) (Nat.le_of_ble_eq_true rfl)
  rw [lg_entry_eq]
  generalize (lg_sl ([.ref r0, .int a1, .int a2, .int a3]) ++ List.replicate (8 - (lg_sl ([.ref r0, .int a1, .int a2, .int a3])).length) Slot.unset).toArray = ls at hl ⊢
  have hl : lv_has ls 8 [(0, .ref r0), (1, .int a1), (2, .int a2), (3, .int a3)] := hl
  generalize hR : (headSpec (jw yX13_withParts cX13_withParts 8 (some .int)) ({ frames := 2 * d + 3, cells := 0, slots := 0, locals := 60 * d + 165 })).room = R
  subst hH0
  have hh : jSt (dC, dI) B base G0 G0 EX13_withParts s.heap 0 0 [(r0, 15, 5, .int pn), (r0, 15, 34, .int pu), (r0, 15, 11, .int py), (r0, 15, 36, .int pb), (r0, 15, 0, .ref zs), (r0, 15, 1, .ref zn), (r0, 15, 2, .ref za), (r0, 15, 3, .ref zb), (r0, 15, 4, .ref zc), (r0, 15, 14, .ref zy)] [(zs, 150, 120000, ca 1, C.s), (zn, 151, 120000, ca 1, C.n), (za, 152, 120000, ca 1, C.a), (zb, 153, 120000, ca 1, C.b), (zc, 154, 120000, ca 1, C.c), (zy, 165, 16, ca 1, C.y)] [] s.heap [] := jSt.start hX hP0 hM0 jIs.nil
  clear hX hP0
  have hk0 : (0 : Int32).toInt = 0 := by decide
  have hk1 : (1 : Int32).toInt = 1 := by decide
  have hk2 : (2 : Int32).toInt = 2 := by decide
  have hly_15_2 := htw (u_lay RX13 TX13 2) (jWc_wsX130 _ (u_in_lay (by decide)))
  have hly_15_3 := htw (u_lay RX13 TX13 3) (jWc_wsX130 _ (u_in_lay (by decide)))
  have hly_15_4 := htw (u_lay RX13 TX13 4) (jWc_wsX130 _ (u_in_lay (by decide)))
  have hlk_25 := (htw (.fieldLink RX13 25 "ProofServerModel$Kernel" "three" "[I") (jWr_14 _ (List.mem_of_getElem? (i := 13) rfl)))
  have hlk_19 := (htw (.fieldLink RX13 19 "ProofServerModel$Kernel" "one" "[I") (jWr_14 _ (List.mem_of_getElem? (i := 11) rfl)))
  have hlk_22 := (htw (.fieldLink RX13 22 "ProofServerModel$Kernel" "two" "[I") (jWr_14 _ (List.mem_of_getElem? (i := 12) rfl)))
  have hrg_a1 := jb_rng a1
  have hrg_a2 := jb_rng a2
  have hrg_a3 := jb_rng a3
  have ho := hp0.ok
  refine lv_aload_n hx hb dX13_withParts_0 rfl (lv_at hl 0 rfl) ?_
  refine j7_read hx hb hown hK (C := RX13) (T := TX13) (N := 50) rfl hly_15_4 hlk_25 (hh.at 8 rfl) dX13_withParts_1 ?_
  refine lv_iload_n hx hb dX13_withParts_4 rfl (lv_at hl 3 rfl) ?_
  refine j7_ialdM hx hb hK hh hB154 1 rfl (by decide) hg_zc (x := a3.toInt) (rfl) (by omega) (j := 4) rfl dX13_withParts_5 (fun z_1 ez_1 (hz_1 : True) => ?_)
  have hqz_1 : z_1.toInt = jSo C.c (a3.toInt) := by unfold jSo; rw [ez_1]
  refine lv_istore (lv' := [(4, .int z_1), (0, .ref r0), (1, .int a1), (2, .int a2), (3, .int a3)]) hx hb dX13_withParts_6 hl (by decide) rfl (fun ls hl => ?_)
  refine lv_iconst (v := 0) hx hb dX13_withParts_8 (by decide) ?_
  refine lv_istore (lv' := [(5, .int 0), (4, .int z_1), (0, .ref r0), (1, .int a1), (2, .int a2), (3, .int a3)]) hx hb dX13_withParts_9 hl (by decide) rfl (fun ls hl => ?_)
  refine lv_iconst (v := 0) hx hb dX13_withParts_11 (by decide) ?_
  refine lv_istore (lv' := [(6, .int 0), (5, .int 0), (4, .int z_1), (0, .ref r0), (1, .int a1), (2, .int a2), (3, .int a3)]) hx hb dX13_withParts_12 hl (by decide) rfl (fun ls hl => ?_)
  refine lv_iconst (v := 0) hx hb dX13_withParts_14 (by decide) ?_
  refine lv_istore (lv' := [(7, .int 0), (6, .int 0), (5, .int 0), (4, .int z_1), (0, .ref r0), (1, .int a1), (2, .int a2), (3, .int a3)]) hx hb dX13_withParts_15 hl (by decide) rfl (fun ls hl => ?_)
  refine lv_iload hx hb dX13_withParts_17 (lv_at hl 3 rfl) ?_
  refine lv_if_le (tgt := 34) hx hb dX13_withParts_19 (by decide) (fun c_2 => ?_) (fun c_2 => ?_)
  · skip
    have c_2' : z_1.toInt ≤ 0 := jb_le (rfl) ((by decide)) c_2
    refine lv_iload hx hb dX13_withParts_34 (lv_at hl 3 rfl) ?_
    refine lv_iconst (v := 1) hx hb dX13_withParts_36 (by decide) ?_
    refine lv_icmp_le (tgt := 57) hx hb dX13_withParts_37 (by decide) (fun c_3 => ?_) (fun c_3 => ?_)
    · skip
      have c_3' : z_1.toInt ≤ 1 := jb_le (rfl) ((by decide)) c_3
      refine lv_iload hx hb dX13_withParts_57 (lv_at hl 3 rfl) ?_
      refine lv_iconst (v := 2) hx hb dX13_withParts_59 (by decide) ?_
      refine lv_icmp_le (tgt := 85) hx hb dX13_withParts_60 (by decide) (fun c_4 => ?_) (fun c_4 => ?_)
      · skip
        have c_4' : z_1.toInt ≤ 2 := jb_le (rfl) ((by decide)) c_4
        refine lv_aload_n hx hb dX13_withParts_85 rfl (lv_at hl 4 rfl) ?_
        refine lv_iload_n hx hb dX13_withParts_86 rfl (lv_at hl 5 rfl) ?_
        refine lv_iload_n hx hb dX13_withParts_87 rfl (lv_at hl 6 rfl) ?_
        refine lv_iload hx hb dX13_withParts_88 (lv_at hl 2 rfl) ?_
        refine lv_iload hx hb dX13_withParts_90 (lv_at hl 1 rfl) ?_
        refine lv_iload hx hb dX13_withParts_92 (lv_at hl 0 rfl) ?_
        refine va_calli (A0 := jA base) (H0 := s.heap) (va_runV (As := [.int a1, .int a2, .int 0, .int 0, .int 0]) (rest := []) ⟨hx, hb, hml, hown, hts⟩ (uX13_nodeK l dC dI ca base B hB hAp hB15 hB150 hB151 hB152 hB153 hB154 hB165 G0 s.heap r0 a1 a2 0 0 0 pn zs zn za zb zc zy C) (cwV 5 hts (jgV (jWr_62 _ (List.mem_of_getElem? (i := 9) rfl)) (jWr_62 _ (List.mem_of_getElem? (i := 10) rfl)) (jWr_62 _ (List.mem_of_getElem? (i := 11) rfl)) (jWr_12 _ (List.mem_of_getElem? (i := 12) rfl)) (jWr_62 _ (List.mem_of_getElem? (i := 12) rfl))) rfl rfl rfl (by decide +kernel) ⟨by rw [← hR]; show (0) + 1 ≤ 2 * d + 3; omega, by rw [← hR]; show 8 + (6 + 11) + (0) ≤ 60 * d + 165; omega⟩) ⟨fun a U g mk q => by obtain ⟨q0, q1, q2, qK, q10, q11, q12, q13, q14, q15, q16, q17, q18, q19⟩ := q; exact ⟨q0, q1, q2, jG.calling g mk a qK, q10, q11, q12, q13, q14, q15, q16, q17, q18, q19⟩, hh.recv (C := RX13) (T := TX13) (N := 50) hB15 rfl (by decide) hg_r0 hK, fun U hU hW => ⟨rfl, hU, hh.2.1, hG.step hW hU hh.1, hg_r0, hg_zs, hg_zn, hg_za, hg_zb, hg_zc, hg_zy, (hh.2.2.1.sub (L1 := [(r0, 15, 5, .int pn), (r0, 15, 0, .ref zs), (r0, 15, 1, .ref zn), (r0, 15, 2, .ref za), (r0, 15, 3, .ref zb), (r0, 15, 4, .ref zc), (r0, 15, 14, .ref zy)]) [0, 4, 5, 6, 7, 8, 9] rfl), (hh.2.2.2.2.2.2.2.1.sub (L1 := [(zs, 150, 120000, ca 1, C.s), (zn, 151, 120000, ca 1, C.n), (za, 152, 120000, ca 1, C.a), (zb, 153, 120000, ca 1, C.b), (zc, 154, 120000, ca 1, C.c), (zy, 165, 16, ca 1, C.y)]) [0, 1, 2, 3, 4, 5] rfl), by first | omega | (refine ⟨?_, ?_⟩ <;> (first | omega | rfl | assumption | decide | exact Or.inl rfl | exact Or.inr rfl | (simp only; omega)))⟩⟩ rfl rfl hl.1 rfl (lv_room (Nat.le_of_ble_eq_true rfl)) dX13_withParts_94 ⟨Nat.zero_le _, Nat.zero_le _⟩) hh.1 (fun q _ h => h) (fun q h => h) (fun r_6 u_5 t_5 H_5 locs_5 ht_5 hvm_5 hr_6 hb_5 hz_5 hk_5 hS_5 => ?_)
        obtain ⟨qn_5, D_5⟩ := u_5
        rw [ht_5] at hb_5
        obtain ⟨⟨hb_51, hb_52, hb_53, hb_54, hb_55⟩, hb_56⟩ := hb_5
        have hh_5 : jSt (dC, dI) B base G0 G0 EX13_withParts s.heap 0 0 [(r0, 15, 5, .int qn_5), (r0, 15, 34, .int pu), (r0, 15, 11, .int py), (r0, 15, 36, .int pb), (r0, 15, 0, .ref zs), (r0, 15, 1, .ref zn), (r0, 15, 2, .ref za), (r0, 15, 3, .ref zb), (r0, 15, 4, .ref zc), (r0, 15, 14, .ref zy)] [(zs, 150, 120000, ca 1, D_5.s), (zn, 151, 120000, ca 1, D_5.n), (za, 152, 120000, ca 1, D_5.a), (zb, 153, 120000, ca 1, D_5.b), (zc, 154, 120000, ca 1, D_5.c), (zy, 165, 16, ca 1, D_5.y), (zy, 165, 16, ca 1, C.y)] [] H_5 locs_5 := ((hh.call hb_51 hb_52 hb_53 hb_54 hS_5 rfl (L1 := [(r0, 15, 34, .int pu), (r0, 15, 11, .int py), (r0, 15, 36, .int pb), (r0, 15, 0, .ref zs), (r0, 15, 1, .ref zn), (r0, 15, 2, .ref za), (r0, 15, 3, .ref zb), (r0, 15, 4, .ref zc), (r0, 15, 14, .ref zy)]) [1, 2, 3, 4, 5, 6, 7, 8, 9] rfl rfl (M1 := [(zy, 165, 16, ca 1, C.y)]) [5] rfl rfl (I1 := []) [] rfl rfl).more hb_55).moreM hb_56
        clear hh ht_5 hvm_5 hz_5 hk_5 hS_5 hb_51 hb_52 hb_53 hb_54 hb_55
        clear hb_56
        try simp only at hr_6
        obtain ⟨hr_6_0, hr_6_1, hr_6_2⟩ := hr_6
        rw [hQ]
        exact W.iret (v := r_6) hx hb hr (fun t ht hW => ⟨⟨r_6, (qn_5, pu, D_5), rfl, by
    try dsimp only
    refine ⟨by omega, by omega, by omega, by omega, hr_6_2.1, fun h9 => ?_⟩
    have hy : jSo C.y a2.toInt = jSo C.c a3.toInt := hp2
    have k := jMk7 (m := jSo C.c a3.toInt) (d := d - 1) (b := pb.toInt) (Y := py.toInt) hr_6_2 (by omega) (by omega) hy (by omega) (by omega) (by omega) (fun q => absurd q (by omega)) (fun q => absurd q (by omega)) (fun q => absurd q (by omega))
    have k2 := k.2.1 (by omega)
    have k1 := k.1
    rw [show d - 1 + 1 = d by omega] at k1
    rw [hr_6_0, hr_6_1]
    exact ⟨k1, by omega⟩, ⟨hh_5.rt (M1 := [(r0, 15, 5, .int qn_5), (r0, 15, 34, .int pu)]) [0, 1] rfl ht, by rw [ht]; exact hh_5.2.2.2.2.2.2.2.1.sub [0, 1, 2, 3, 4, 5] rfl⟩⟩, by rw [ht]; try exact hh_5.1.1, fun q h9 hq => by rw [ht]; try exact hh_5.1.2.1 q h9 hq⟩) hh_5.1.2.2 dX13_withParts_97
      · skip
        have c_4' : z_1.toInt > 2 := jb_le_n (rfl) ((by decide)) c_4
        exact (by omega : False).elim
    · skip
      have c_3' : z_1.toInt > 1 := jb_le_n (rfl) ((by decide)) c_3
      exact (by omega : False).elim
  · skip
    have c_2' : z_1.toInt > 0 := jb_le_n (rfl) ((by decide)) c_2
    have p1 := hp0.p1 (by omega) (by omega)
    have o1 := p1.2.1.ok
    refine lv_aload_n hx hb dX13_withParts_22 rfl (lv_at hl 4 rfl) ?_
    refine lv_aload_n hx hb dX13_withParts_23 rfl (lv_at hl 4 rfl) ?_
    refine j7_read hx hb hown hK (C := RX13) (T := TX13) (N := 50) rfl hly_15_2 hlk_19 (hh.at 6 rfl) dX13_withParts_24 ?_
    refine lv_iload_n hx hb dX13_withParts_27 rfl (lv_at hl 7 rfl) ?_
    refine j7_ialdM hx hb hK hh hB152 1 rfl (by decide) hg_za (x := a3.toInt) (rfl) (by omega) (j := 2) rfl dX13_withParts_28 (fun z_7 ez_7 (hz_7 : True) => ?_)
    have hqz_7 : z_7.toInt = jSo C.a (a3.toInt) := by unfold jSo; rw [ez_7]
    refine va_calli (A0 := jA base) (H0 := s.heap) (va_runV (As := [.int z_7]) (rest := []) ⟨hx, hb, hml, hown, hts⟩ (ih (d - 1) (by omega) G0 s.heap r0 z_7 pn pu py pb zs zn za zb zc zy (jH1 C a3.toInt hi) C) (cwV 1 hts (jgV (jWr_65 _ (List.mem_of_getElem? (i := 7) rfl)) (jWr_65 _ (List.mem_of_getElem? (i := 8) rfl)) (jWr_65 _ (List.mem_of_getElem? (i := 9) rfl)) (jWr_12 _ (List.mem_of_getElem? (i := 12) rfl)) (jWr_65 _ (List.mem_of_getElem? (i := 10) rfl))) rfl rfl rfl (by decide +kernel) ⟨by rw [← hR]; show (2 * (d - 1) + 4) + 1 ≤ 2 * d + 3; omega, by rw [← hR]; show 8 + (4 + 11) + (60 * (d - 1) + 200) ≤ 60 * d + 165; omega⟩) ⟨fun a U g mk q => by obtain ⟨q0, q1, q2, qK, q10, q11, q12, q13, q14, q15, q16, q17, q18, q19⟩ := q; exact ⟨q0, q1, q2, jG.calling g mk a qK, q10, q11, q12, q13, q14, q15, q16, q17, q18, q19⟩, hh.recv (C := RX13) (T := TX13) (N := 50) hB15 rfl (by decide) hg_r0 hK, fun U hU hW => ⟨rfl, hU, hh.2.1, hG.step hW hU hh.1, hg_r0, hg_zs, hg_zn, hg_za, hg_zb, hg_zc, hg_zy, (hh.2.2.1.sub (L1 := [(r0, 15, 5, .int pn), (r0, 15, 34, .int pu), (r0, 15, 11, .int py), (r0, 15, 36, .int pb), (r0, 15, 0, .ref zs), (r0, 15, 1, .ref zn), (r0, 15, 2, .ref za), (r0, 15, 3, .ref zb), (r0, 15, 4, .ref zc), (r0, 15, 14, .ref zy)]) [0, 1, 2, 3, 4, 5, 6, 7, 8, 9] rfl), (hh.2.2.2.2.2.2.2.1.sub (L1 := [(zs, 150, 120000, ca 1, C.s), (zn, 151, 120000, ca 1, C.n), (za, 152, 120000, ca 1, C.a), (zb, 153, 120000, ca 1, C.b), (zc, 154, 120000, ca 1, C.c), (zy, 165, 16, ca 1, C.y)]) [0, 1, 2, 3, 4, 5] rfl), ⟨(by first | assumption | (rw [hqz_7]; exact p1.2.1) | (rw [hqz_7]; omega) | omega), (by first | omega | rfl | assumption | (rw [hqz_7]; exact p1.2.1) | (rw [hqz_7]; omega)), (by first | omega | rfl | assumption | (rw [hqz_7]; exact p1.2.1) | (rw [hqz_7]; omega)), (by first | omega | rfl | assumption | (rw [hqz_7]; exact p1.2.1) | (rw [hqz_7]; omega)), (by first | omega | rfl | assumption | (rw [hqz_7]; exact p1.2.1) | (rw [hqz_7]; omega)), (by first | omega | rfl | assumption | (rw [hqz_7]; exact p1.2.1) | (rw [hqz_7]; omega)), (by first | omega | rfl | assumption | (rw [hqz_7]; exact p1.2.1) | (rw [hqz_7]; omega)), (by first | omega | rfl | assumption | (rw [hqz_7]; exact p1.2.1) | (rw [hqz_7]; omega)), (by first | omega | rfl | assumption | (rw [hqz_7]; exact p1.2.1) | (rw [hqz_7]; omega)), (by first | omega | rfl | assumption | (rw [hqz_7]; exact p1.2.1) | (rw [hqz_7]; omega)), (by first | omega | rfl | assumption | (rw [hqz_7]; exact p1.2.1) | (rw [hqz_7]; omega))⟩⟩⟩ rfl rfl hl.1 rfl (lv_room (Nat.le_of_ble_eq_true rfl)) dX13_withParts_29 ⟨Nat.zero_le _, Nat.zero_le _⟩) hh.1 (fun q _ h => h) (fun q h => h) (fun r_9 u_8 t_8 H_8 locs_8 ht_8 hvm_8 hr_9 hb_8 hz_8 hk_8 hS_8 => ?_)
    obtain ⟨qn_8, qu_8, D_8⟩ := u_8
    rw [ht_8] at hb_8
    obtain ⟨⟨hb_81, hb_82, hb_83, hb_84, hb_85⟩, hb_86⟩ := hb_8
    have hh_8 : jSt (dC, dI) B base G0 G0 EX13_withParts s.heap 0 0 [(r0, 15, 5, .int qn_8), (r0, 15, 34, .int qu_8), (r0, 15, 11, .int py), (r0, 15, 36, .int pb), (r0, 15, 0, .ref zs), (r0, 15, 1, .ref zn), (r0, 15, 2, .ref za), (r0, 15, 3, .ref zb), (r0, 15, 4, .ref zc), (r0, 15, 14, .ref zy)] [(zs, 150, 120000, ca 1, D_8.s), (zn, 151, 120000, ca 1, D_8.n), (za, 152, 120000, ca 1, D_8.a), (zb, 153, 120000, ca 1, D_8.b), (zc, 154, 120000, ca 1, D_8.c), (zy, 165, 16, ca 1, D_8.y), (zy, 165, 16, ca 1, C.y)] [] H_8 locs_8 := ((hh.call hb_81 hb_82 hb_83 hb_84 hS_8 rfl (L1 := [(r0, 15, 11, .int py), (r0, 15, 36, .int pb), (r0, 15, 0, .ref zs), (r0, 15, 1, .ref zn), (r0, 15, 2, .ref za), (r0, 15, 3, .ref zb), (r0, 15, 4, .ref zc), (r0, 15, 14, .ref zy)]) [2, 3, 4, 5, 6, 7, 8, 9] rfl rfl (M1 := [(zy, 165, 16, ca 1, C.y)]) [5] rfl rfl (I1 := []) [] rfl rfl).more hb_85).moreM hb_86
    clear hh ht_8 hvm_8 hz_8 hk_8 hS_8 hb_81 hb_82 hb_83 hb_84 hb_85
    clear hb_86
    try simp only at hr_9
    obtain ⟨hr_9_0, hr_9_1, hr_9_2, hr_9_3, hr_9_4, hr_9_5⟩ := hr_9
    rw [hqz_7] at hr_9_1 hr_9_5
    refine lv_istore (lv' := [(5, .int r_9), (7, .int 0), (6, .int 0), (4, .int z_1), (0, .ref r0), (1, .int a1), (2, .int a2), (3, .int a3)]) hx hb dX13_withParts_32 hl (by decide) rfl (fun ls hl => ?_)
    refine lv_iload hx hb dX13_withParts_34 (lv_at hl 3 rfl) ?_
    refine lv_iconst (v := 1) hx hb dX13_withParts_36 (by decide) ?_
    refine lv_icmp_le (tgt := 57) hx hb dX13_withParts_37 (by decide) (fun c_10 => ?_) (fun c_10 => ?_)
    · skip
      have c_10' : z_1.toInt ≤ 1 := jb_le (rfl) ((by decide)) c_10
      refine lv_iload hx hb dX13_withParts_57 (lv_at hl 3 rfl) ?_
      refine lv_iconst (v := 2) hx hb dX13_withParts_59 (by decide) ?_
      refine lv_icmp_le (tgt := 85) hx hb dX13_withParts_60 (by decide) (fun c_11 => ?_) (fun c_11 => ?_)
      · skip
        have c_11' : z_1.toInt ≤ 2 := jb_le (rfl) ((by decide)) c_11
        refine lv_aload_n hx hb dX13_withParts_85 rfl (lv_at hl 4 rfl) ?_
        refine lv_iload_n hx hb dX13_withParts_86 rfl (lv_at hl 5 rfl) ?_
        refine lv_iload_n hx hb dX13_withParts_87 rfl (lv_at hl 6 rfl) ?_
        refine lv_iload hx hb dX13_withParts_88 (lv_at hl 0 rfl) ?_
        refine lv_iload hx hb dX13_withParts_90 (lv_at hl 2 rfl) ?_
        refine lv_iload hx hb dX13_withParts_92 (lv_at hl 1 rfl) ?_
        refine va_calli (A0 := jA base) (H0 := s.heap) (va_runV (As := [.int a1, .int a2, .int r_9, .int 0, .int 0]) (rest := []) ⟨hx, hb, hml, hown, hts⟩ (uX13_nodeK l dC dI ca base B hB hAp hB15 hB150 hB151 hB152 hB153 hB154 hB165 G0 H_8 r0 a1 a2 r_9 0 0 qn_8 zs zn za zb zc zy D_8) (cwV 5 hts (jgV (jWr_62 _ (List.mem_of_getElem? (i := 9) rfl)) (jWr_62 _ (List.mem_of_getElem? (i := 10) rfl)) (jWr_62 _ (List.mem_of_getElem? (i := 11) rfl)) (jWr_12 _ (List.mem_of_getElem? (i := 12) rfl)) (jWr_62 _ (List.mem_of_getElem? (i := 12) rfl))) rfl rfl rfl (by decide +kernel) ⟨by rw [← hR]; show (0) + 1 ≤ 2 * d + 3; omega, by rw [← hR]; show 8 + (6 + 11) + (0) ≤ 60 * d + 165; omega⟩) ⟨fun a U g mk q => by obtain ⟨q0, q1, q2, qK, q10, q11, q12, q13, q14, q15, q16, q17, q18, q19⟩ := q; exact ⟨q0, q1, q2, jG.calling g mk a qK, q10, q11, q12, q13, q14, q15, q16, q17, q18, q19⟩, hh_8.recv (C := RX13) (T := TX13) (N := 50) hB15 rfl (by decide) hg_r0 hK, fun U hU hW => ⟨rfl, hU, hh_8.2.1, hG.step hW hU hh_8.1, hg_r0, hg_zs, hg_zn, hg_za, hg_zb, hg_zc, hg_zy, (hh_8.2.2.1.sub (L1 := [(r0, 15, 5, .int qn_8), (r0, 15, 0, .ref zs), (r0, 15, 1, .ref zn), (r0, 15, 2, .ref za), (r0, 15, 3, .ref zb), (r0, 15, 4, .ref zc), (r0, 15, 14, .ref zy)]) [0, 4, 5, 6, 7, 8, 9] rfl), (hh_8.2.2.2.2.2.2.2.1.sub (L1 := [(zs, 150, 120000, ca 1, D_8.s), (zn, 151, 120000, ca 1, D_8.n), (za, 152, 120000, ca 1, D_8.a), (zb, 153, 120000, ca 1, D_8.b), (zc, 154, 120000, ca 1, D_8.c), (zy, 165, 16, ca 1, D_8.y)]) [0, 1, 2, 3, 4, 5] rfl), by first | omega | (refine ⟨?_, ?_⟩ <;> (first | omega | rfl | assumption | decide | exact Or.inl rfl | exact Or.inr rfl | (simp only; omega)))⟩⟩ rfl rfl hl.1 rfl (lv_room (Nat.le_of_ble_eq_true rfl)) dX13_withParts_94 ⟨Nat.zero_le _, Nat.zero_le _⟩) hh_8.1 (fun q _ h => h) (fun q h => h) (fun r_13 u_12 t_12 H_12 locs_12 ht_12 hvm_12 hr_13 hb_12 hz_12 hk_12 hS_12 => ?_)
        obtain ⟨qn_12, D_12⟩ := u_12
        rw [ht_12] at hb_12
        obtain ⟨⟨hb_121, hb_122, hb_123, hb_124, hb_125⟩, hb_126⟩ := hb_12
        have hh_12 : jSt (dC, dI) B base G0 G0 EX13_withParts s.heap 0 0 [(r0, 15, 5, .int qn_12), (r0, 15, 34, .int qu_8), (r0, 15, 11, .int py), (r0, 15, 36, .int pb), (r0, 15, 0, .ref zs), (r0, 15, 1, .ref zn), (r0, 15, 2, .ref za), (r0, 15, 3, .ref zb), (r0, 15, 4, .ref zc), (r0, 15, 14, .ref zy)] [(zs, 150, 120000, ca 1, D_12.s), (zn, 151, 120000, ca 1, D_12.n), (za, 152, 120000, ca 1, D_12.a), (zb, 153, 120000, ca 1, D_12.b), (zc, 154, 120000, ca 1, D_12.c), (zy, 165, 16, ca 1, D_12.y), (zy, 165, 16, ca 1, D_8.y), (zy, 165, 16, ca 1, C.y)] [] H_12 locs_12 := ((hh_8.call hb_121 hb_122 hb_123 hb_124 hS_12 rfl (L1 := [(r0, 15, 34, .int qu_8), (r0, 15, 11, .int py), (r0, 15, 36, .int pb), (r0, 15, 0, .ref zs), (r0, 15, 1, .ref zn), (r0, 15, 2, .ref za), (r0, 15, 3, .ref zb), (r0, 15, 4, .ref zc), (r0, 15, 14, .ref zy)]) [1, 2, 3, 4, 5, 6, 7, 8, 9] rfl rfl (M1 := [(zy, 165, 16, ca 1, D_8.y), (zy, 165, 16, ca 1, C.y)]) [5, 6] rfl rfl (I1 := []) [] rfl rfl).more hb_125).moreM hb_126
        clear hh_8 ht_12 hvm_12 hz_12 hk_12 hS_12 hb_121 hb_122 hb_123 hb_124 hb_125
        clear hb_126
        try simp only at hr_13
        obtain ⟨hr_13_0, hr_13_1, hr_13_2⟩ := hr_13
        rw [hQ]
        exact W.iret (v := r_13) hx hb hr (fun t ht hW => ⟨⟨r_13, (qn_12, qu_8, D_12), rfl, by
    try dsimp only
    refine ⟨by omega, by omega, by omega, by omega, hr_9_4.tr hr_13_2.1 (by omega), fun h9 => ?_⟩
    obtain ⟨f0, s0⟩ := hr_9_5 (by omega)
    have hy : jSo D_8.y a2.toInt = jSo C.c a3.toInt := by rw [← hp2]; unfold jSo; rw [(hr_9_4).2]
    have k := jMk7 (m := jSo C.c a3.toInt) (d := d - 1) (b := pb.toInt) (Y := py.toInt) hr_13_2 (by omega) (by omega) hy (by omega) (by omega) (by omega) (fun _ => f0) (fun q => absurd q (by omega)) (fun q => absurd q (by omega))
    have k2 := k.2.2.1 (by omega)
    have k1 := k.1
    rw [show d - 1 + 1 = d by omega] at k1
    rw [hr_13_0, hr_13_1]
    exact ⟨k1, by omega⟩, ⟨hh_12.rt (M1 := [(r0, 15, 5, .int qn_12), (r0, 15, 34, .int qu_8)]) [0, 1] rfl ht, by rw [ht]; exact hh_12.2.2.2.2.2.2.2.1.sub [0, 1, 2, 3, 4, 5] rfl⟩⟩, by rw [ht]; try exact hh_12.1.1, fun q h9 hq => by rw [ht]; try exact hh_12.1.2.1 q h9 hq⟩) hh_12.1.2.2 dX13_withParts_97
      · skip
        have c_11' : z_1.toInt > 2 := jb_le_n (rfl) ((by decide)) c_11
        exact (by omega : False).elim
    · skip
      have c_10' : z_1.toInt > 1 := jb_le_n (rfl) ((by decide)) c_10
      have hs1 := hr_9_4.so (n := a3.toInt) (by omega) (by omega)
      have p2 := hp0.p2 (by omega) (by omega)
      have o2 := p2.1.ok
      have hs2 := hr_9_4.so (n := jSo C.a a3.toInt) (by omega) (by omega)
      refine lv_aload_n hx hb dX13_withParts_40 rfl (lv_at hl 4 rfl) ?_
      refine lv_aload_n hx hb dX13_withParts_41 rfl (lv_at hl 4 rfl) ?_
      refine j7_read hx hb hown hK (C := RX13) (T := TX13) (N := 50) rfl hly_15_3 hlk_22 (hh_8.at 7 rfl) dX13_withParts_42 ?_
      refine lv_aload_n hx hb dX13_withParts_45 rfl (lv_at hl 4 rfl) ?_
      refine j7_read hx hb hown hK (C := RX13) (T := TX13) (N := 50) rfl hly_15_2 hlk_19 (hh_8.at 6 rfl) dX13_withParts_46 ?_
      refine lv_iload_n hx hb dX13_withParts_49 rfl (lv_at hl 7 rfl) ?_
      refine j7_ialdM hx hb hK hh_8 hB152 1 rfl (by decide) hg_za (x := a3.toInt) (rfl) (by omega) (j := 2) rfl dX13_withParts_50 (fun z_14 ez_14 (hz_14 : True) => ?_)
      have hqz_14 : z_14.toInt = jSo D_8.a (a3.toInt) := by unfold jSo; rw [ez_14]
      first | rw [hs1.2.2.1] at hqz_14 | skip
      refine j7_ialdM hx hb hK hh_8 hB153 1 rfl (by decide) hg_zb (x := z_14.toInt) (rfl) (by omega) (j := 3) rfl dX13_withParts_51 (fun z_15 ez_15 (hz_15 : True) => ?_)
      have hqz_15 : z_15.toInt = jSo D_8.b (z_14.toInt) := by unfold jSo; rw [ez_15]
      refine va_calli (A0 := jA base) (H0 := s.heap) (va_runV (As := [.int z_15]) (rest := []) ⟨hx, hb, hml, hown, hts⟩ (ih (d - 1) (by omega) G0 H_8 r0 z_15 qn_8 qu_8 py pb zs zn za zb zc zy (jH2 C a3.toInt hi) D_8) (cwV 1 hts (jgV (jWr_65 _ (List.mem_of_getElem? (i := 7) rfl)) (jWr_65 _ (List.mem_of_getElem? (i := 8) rfl)) (jWr_65 _ (List.mem_of_getElem? (i := 9) rfl)) (jWr_12 _ (List.mem_of_getElem? (i := 12) rfl)) (jWr_65 _ (List.mem_of_getElem? (i := 10) rfl))) rfl rfl rfl (by decide +kernel) ⟨by rw [← hR]; show (2 * (d - 1) + 4) + 1 ≤ 2 * d + 3; omega, by rw [← hR]; show 8 + (4 + 11) + (60 * (d - 1) + 200) ≤ 60 * d + 165; omega⟩) ⟨fun a U g mk q => by obtain ⟨q0, q1, q2, qK, q10, q11, q12, q13, q14, q15, q16, q17, q18, q19⟩ := q; exact ⟨q0, q1, q2, jG.calling g mk a qK, q10, q11, q12, q13, q14, q15, q16, q17, q18, q19⟩, hh_8.recv (C := RX13) (T := TX13) (N := 50) hB15 rfl (by decide) hg_r0 hK, fun U hU hW => ⟨rfl, hU, hh_8.2.1, hG.step hW hU hh_8.1, hg_r0, hg_zs, hg_zn, hg_za, hg_zb, hg_zc, hg_zy, (hh_8.2.2.1.sub (L1 := [(r0, 15, 5, .int qn_8), (r0, 15, 34, .int qu_8), (r0, 15, 11, .int py), (r0, 15, 36, .int pb), (r0, 15, 0, .ref zs), (r0, 15, 1, .ref zn), (r0, 15, 2, .ref za), (r0, 15, 3, .ref zb), (r0, 15, 4, .ref zc), (r0, 15, 14, .ref zy)]) [0, 1, 2, 3, 4, 5, 6, 7, 8, 9] rfl), (hh_8.2.2.2.2.2.2.2.1.sub (L1 := [(zs, 150, 120000, ca 1, D_8.s), (zn, 151, 120000, ca 1, D_8.n), (za, 152, 120000, ca 1, D_8.a), (zb, 153, 120000, ca 1, D_8.b), (zc, 154, 120000, ca 1, D_8.c), (zy, 165, 16, ca 1, D_8.y)]) [0, 1, 2, 3, 4, 5] rfl), ⟨(by first | assumption | (rw [hqz_15, hqz_14, hs2.2.2.2.1]; exact p2.1.agK hr_9_4 (by omega)) | (rw [hqz_15, hqz_14, hs2.2.2.2.1]; omega) | omega), (by first | omega | rfl | assumption | (rw [hqz_15, hqz_14, hs2.2.2.2.1]; exact p2.1.agK hr_9_4 (by omega)) | (rw [hqz_15, hqz_14, hs2.2.2.2.1]; omega)), (by first | omega | rfl | assumption | (rw [hqz_15, hqz_14, hs2.2.2.2.1]; exact p2.1.agK hr_9_4 (by omega)) | (rw [hqz_15, hqz_14, hs2.2.2.2.1]; omega)), (by first | omega | rfl | assumption | (rw [hqz_15, hqz_14, hs2.2.2.2.1]; exact p2.1.agK hr_9_4 (by omega)) | (rw [hqz_15, hqz_14, hs2.2.2.2.1]; omega)), (by first | omega | rfl | assumption | (rw [hqz_15, hqz_14, hs2.2.2.2.1]; exact p2.1.agK hr_9_4 (by omega)) | (rw [hqz_15, hqz_14, hs2.2.2.2.1]; omega)), (by first | omega | rfl | assumption | (rw [hqz_15, hqz_14, hs2.2.2.2.1]; exact p2.1.agK hr_9_4 (by omega)) | (rw [hqz_15, hqz_14, hs2.2.2.2.1]; omega)), (by first | omega | rfl | assumption | (rw [hqz_15, hqz_14, hs2.2.2.2.1]; exact p2.1.agK hr_9_4 (by omega)) | (rw [hqz_15, hqz_14, hs2.2.2.2.1]; omega)), (by first | omega | rfl | assumption | (rw [hqz_15, hqz_14, hs2.2.2.2.1]; exact p2.1.agK hr_9_4 (by omega)) | (rw [hqz_15, hqz_14, hs2.2.2.2.1]; omega)), (by first | omega | rfl | assumption | (rw [hqz_15, hqz_14, hs2.2.2.2.1]; exact p2.1.agK hr_9_4 (by omega)) | (rw [hqz_15, hqz_14, hs2.2.2.2.1]; omega)), (by first | omega | rfl | assumption | (rw [hqz_15, hqz_14, hs2.2.2.2.1]; exact p2.1.agK hr_9_4 (by omega)) | (rw [hqz_15, hqz_14, hs2.2.2.2.1]; omega)), (by first | omega | rfl | assumption | (rw [hqz_15, hqz_14, hs2.2.2.2.1]; exact p2.1.agK hr_9_4 (by omega)) | (rw [hqz_15, hqz_14, hs2.2.2.2.1]; omega))⟩⟩⟩ rfl rfl hl.1 rfl (lv_room (Nat.le_of_ble_eq_true rfl)) dX13_withParts_52 ⟨Nat.zero_le _, Nat.zero_le _⟩) hh_8.1 (fun q _ h => h) (fun q h => h) (fun r_17 u_16 t_16 H_16 locs_16 ht_16 hvm_16 hr_17 hb_16 hz_16 hk_16 hS_16 => ?_)
      obtain ⟨qn_16, qu_16, D_16⟩ := u_16
      rw [ht_16] at hb_16
      obtain ⟨⟨hb_161, hb_162, hb_163, hb_164, hb_165⟩, hb_166⟩ := hb_16
      have hh_16 : jSt (dC, dI) B base G0 G0 EX13_withParts s.heap 0 0 [(r0, 15, 5, .int qn_16), (r0, 15, 34, .int qu_16), (r0, 15, 11, .int py), (r0, 15, 36, .int pb), (r0, 15, 0, .ref zs), (r0, 15, 1, .ref zn), (r0, 15, 2, .ref za), (r0, 15, 3, .ref zb), (r0, 15, 4, .ref zc), (r0, 15, 14, .ref zy)] [(zs, 150, 120000, ca 1, D_16.s), (zn, 151, 120000, ca 1, D_16.n), (za, 152, 120000, ca 1, D_16.a), (zb, 153, 120000, ca 1, D_16.b), (zc, 154, 120000, ca 1, D_16.c), (zy, 165, 16, ca 1, D_16.y), (zy, 165, 16, ca 1, D_8.y), (zy, 165, 16, ca 1, C.y)] [] H_16 locs_16 := ((hh_8.call hb_161 hb_162 hb_163 hb_164 hS_16 rfl (L1 := [(r0, 15, 11, .int py), (r0, 15, 36, .int pb), (r0, 15, 0, .ref zs), (r0, 15, 1, .ref zn), (r0, 15, 2, .ref za), (r0, 15, 3, .ref zb), (r0, 15, 4, .ref zc), (r0, 15, 14, .ref zy)]) [2, 3, 4, 5, 6, 7, 8, 9] rfl rfl (M1 := [(zy, 165, 16, ca 1, D_8.y), (zy, 165, 16, ca 1, C.y)]) [5, 6] rfl rfl (I1 := []) [] rfl rfl).more hb_165).moreM hb_166
      clear hh_8 ht_16 hvm_16 hz_16 hk_16 hS_16 hb_161 hb_162 hb_163 hb_164 hb_165
      clear hb_166
      try simp only at hr_17
      obtain ⟨hr_17_0, hr_17_1, hr_17_2, hr_17_3, hr_17_4, hr_17_5⟩ := hr_17
      rw [hqz_15, hqz_14, hs2.2.2.2.1] at hr_17_1 hr_17_5
      refine lv_istore (lv' := [(6, .int r_17), (5, .int r_9), (7, .int 0), (4, .int z_1), (0, .ref r0), (1, .int a1), (2, .int a2), (3, .int a3)]) hx hb dX13_withParts_55 hl (by decide) rfl (fun ls hl => ?_)
      refine lv_iload hx hb dX13_withParts_57 (lv_at hl 3 rfl) ?_
      refine lv_iconst (v := 2) hx hb dX13_withParts_59 (by decide) ?_
      refine lv_icmp_le (tgt := 85) hx hb dX13_withParts_60 (by decide) (fun c_18 => ?_) (fun c_18 => ?_)
      · skip
        have c_18' : z_1.toInt ≤ 2 := jb_le (rfl) ((by decide)) c_18
        refine lv_aload_n hx hb dX13_withParts_85 rfl (lv_at hl 4 rfl) ?_
        refine lv_iload_n hx hb dX13_withParts_86 rfl (lv_at hl 5 rfl) ?_
        refine lv_iload_n hx hb dX13_withParts_87 rfl (lv_at hl 6 rfl) ?_
        refine lv_iload hx hb dX13_withParts_88 (lv_at hl 1 rfl) ?_
        refine lv_iload hx hb dX13_withParts_90 (lv_at hl 0 rfl) ?_
        refine lv_iload hx hb dX13_withParts_92 (lv_at hl 2 rfl) ?_
        refine va_calli (A0 := jA base) (H0 := s.heap) (va_runV (As := [.int a1, .int a2, .int r_9, .int r_17, .int 0]) (rest := []) ⟨hx, hb, hml, hown, hts⟩ (uX13_nodeK l dC dI ca base B hB hAp hB15 hB150 hB151 hB152 hB153 hB154 hB165 G0 H_16 r0 a1 a2 r_9 r_17 0 qn_16 zs zn za zb zc zy D_16) (cwV 5 hts (jgV (jWr_62 _ (List.mem_of_getElem? (i := 9) rfl)) (jWr_62 _ (List.mem_of_getElem? (i := 10) rfl)) (jWr_62 _ (List.mem_of_getElem? (i := 11) rfl)) (jWr_12 _ (List.mem_of_getElem? (i := 12) rfl)) (jWr_62 _ (List.mem_of_getElem? (i := 12) rfl))) rfl rfl rfl (by decide +kernel) ⟨by rw [← hR]; show (0) + 1 ≤ 2 * d + 3; omega, by rw [← hR]; show 8 + (6 + 11) + (0) ≤ 60 * d + 165; omega⟩) ⟨fun a U g mk q => by obtain ⟨q0, q1, q2, qK, q10, q11, q12, q13, q14, q15, q16, q17, q18, q19⟩ := q; exact ⟨q0, q1, q2, jG.calling g mk a qK, q10, q11, q12, q13, q14, q15, q16, q17, q18, q19⟩, hh_16.recv (C := RX13) (T := TX13) (N := 50) hB15 rfl (by decide) hg_r0 hK, fun U hU hW => ⟨rfl, hU, hh_16.2.1, hG.step hW hU hh_16.1, hg_r0, hg_zs, hg_zn, hg_za, hg_zb, hg_zc, hg_zy, (hh_16.2.2.1.sub (L1 := [(r0, 15, 5, .int qn_16), (r0, 15, 0, .ref zs), (r0, 15, 1, .ref zn), (r0, 15, 2, .ref za), (r0, 15, 3, .ref zb), (r0, 15, 4, .ref zc), (r0, 15, 14, .ref zy)]) [0, 4, 5, 6, 7, 8, 9] rfl), (hh_16.2.2.2.2.2.2.2.1.sub (L1 := [(zs, 150, 120000, ca 1, D_16.s), (zn, 151, 120000, ca 1, D_16.n), (za, 152, 120000, ca 1, D_16.a), (zb, 153, 120000, ca 1, D_16.b), (zc, 154, 120000, ca 1, D_16.c), (zy, 165, 16, ca 1, D_16.y)]) [0, 1, 2, 3, 4, 5] rfl), by first | omega | (refine ⟨?_, ?_⟩ <;> (first | omega | rfl | assumption | decide | exact Or.inl rfl | exact Or.inr rfl | (simp only; omega)))⟩⟩ rfl rfl hl.1 rfl (lv_room (Nat.le_of_ble_eq_true rfl)) dX13_withParts_94 ⟨Nat.zero_le _, Nat.zero_le _⟩) hh_16.1 (fun q _ h => h) (fun q h => h) (fun r_20 u_19 t_19 H_19 locs_19 ht_19 hvm_19 hr_20 hb_19 hz_19 hk_19 hS_19 => ?_)
        obtain ⟨qn_19, D_19⟩ := u_19
        rw [ht_19] at hb_19
        obtain ⟨⟨hb_191, hb_192, hb_193, hb_194, hb_195⟩, hb_196⟩ := hb_19
        have hh_19 : jSt (dC, dI) B base G0 G0 EX13_withParts s.heap 0 0 [(r0, 15, 5, .int qn_19), (r0, 15, 34, .int qu_16), (r0, 15, 11, .int py), (r0, 15, 36, .int pb), (r0, 15, 0, .ref zs), (r0, 15, 1, .ref zn), (r0, 15, 2, .ref za), (r0, 15, 3, .ref zb), (r0, 15, 4, .ref zc), (r0, 15, 14, .ref zy)] [(zs, 150, 120000, ca 1, D_19.s), (zn, 151, 120000, ca 1, D_19.n), (za, 152, 120000, ca 1, D_19.a), (zb, 153, 120000, ca 1, D_19.b), (zc, 154, 120000, ca 1, D_19.c), (zy, 165, 16, ca 1, D_19.y), (zy, 165, 16, ca 1, D_16.y), (zy, 165, 16, ca 1, D_8.y), (zy, 165, 16, ca 1, C.y)] [] H_19 locs_19 := ((hh_16.call hb_191 hb_192 hb_193 hb_194 hS_19 rfl (L1 := [(r0, 15, 34, .int qu_16), (r0, 15, 11, .int py), (r0, 15, 36, .int pb), (r0, 15, 0, .ref zs), (r0, 15, 1, .ref zn), (r0, 15, 2, .ref za), (r0, 15, 3, .ref zb), (r0, 15, 4, .ref zc), (r0, 15, 14, .ref zy)]) [1, 2, 3, 4, 5, 6, 7, 8, 9] rfl rfl (M1 := [(zy, 165, 16, ca 1, D_16.y), (zy, 165, 16, ca 1, D_8.y), (zy, 165, 16, ca 1, C.y)]) [5, 6, 7] rfl rfl (I1 := []) [] rfl rfl).more hb_195).moreM hb_196
        clear hh_16 ht_19 hvm_19 hz_19 hk_19 hS_19 hb_191 hb_192 hb_193 hb_194 hb_195
        clear hb_196
        try simp only at hr_20
        obtain ⟨hr_20_0, hr_20_1, hr_20_2⟩ := hr_20
        rw [hQ]
        exact W.iret (v := r_20) hx hb hr (fun t ht hW => ⟨⟨r_20, (qn_19, qu_16, D_19), rfl, by
    try dsimp only
    refine ⟨by omega, by omega, by omega, by omega, (hr_9_4.tr hr_17_4 (by omega)).tr hr_20_2.1 (by omega), fun h9 => ?_⟩
    obtain ⟨f0, s0⟩ := hr_9_5 (by omega)
    have t0 := jsz_ag (hr_17_4) f0
    have f0 := jFm.ag (M := qn_16.toInt) (hr_17_4) (by omega) f0
    obtain ⟨f1, s1⟩ := hr_17_5 (by omega)
    have hy : jSo D_16.y a2.toInt = jSo C.c a3.toInt := by rw [← hp2]; unfold jSo; rw [((hr_9_4.tr hr_17_4 (by omega))).2]
    have k := jMk7 (m := jSo C.c a3.toInt) (d := d - 1) (b := pb.toInt) (Y := py.toInt) hr_20_2 (by omega) (by omega) hy (by omega) (by omega) (by omega) (fun _ => f0) (fun _ => f1) (fun q => absurd q (by omega))
    have k2 := k.2.2.2.1 (by omega)
    have k1 := k.1
    rw [show d - 1 + 1 = d by omega] at k1
    rw [hr_20_0, hr_20_1]
    exact ⟨k1, by omega⟩, ⟨hh_19.rt (M1 := [(r0, 15, 5, .int qn_19), (r0, 15, 34, .int qu_16)]) [0, 1] rfl ht, by rw [ht]; exact hh_19.2.2.2.2.2.2.2.1.sub [0, 1, 2, 3, 4, 5] rfl⟩⟩, by rw [ht]; try exact hh_19.1.1, fun q h9 hq => by rw [ht]; try exact hh_19.1.2.1 q h9 hq⟩) hh_19.1.2.2 dX13_withParts_97
      · skip
        have c_18' : z_1.toInt > 2 := jb_le_n (rfl) ((by decide)) c_18
        have hA2 := hr_9_4.tr hr_17_4 (by omega)
        have hs3 := hA2.so (n := a3.toInt) (by omega) (by omega)
        have p3 := hp0.p3 (by omega)
        have o3 := p3.1.ok
        have hs4 := hA2.so (n := jSo C.a a3.toInt) (by omega) (by omega)
        have hs5 := hA2.so (n := jSo C.b (jSo C.a a3.toInt)) (by omega) (by omega)
        refine lv_aload_n hx hb dX13_withParts_63 rfl (lv_at hl 4 rfl) ?_
        refine lv_aload_n hx hb dX13_withParts_64 rfl (lv_at hl 4 rfl) ?_
        refine j7_read hx hb hown hK (C := RX13) (T := TX13) (N := 50) rfl hly_15_3 hlk_22 (hh_16.at 7 rfl) dX13_withParts_65 ?_
        refine lv_aload_n hx hb dX13_withParts_68 rfl (lv_at hl 4 rfl) ?_
        refine j7_read hx hb hown hK (C := RX13) (T := TX13) (N := 50) rfl hly_15_3 hlk_22 (hh_16.at 7 rfl) dX13_withParts_69 ?_
        refine lv_aload_n hx hb dX13_withParts_72 rfl (lv_at hl 4 rfl) ?_
        refine j7_read hx hb hown hK (C := RX13) (T := TX13) (N := 50) rfl hly_15_2 hlk_19 (hh_16.at 6 rfl) dX13_withParts_73 ?_
        refine lv_iload_n hx hb dX13_withParts_76 rfl (lv_at hl 7 rfl) ?_
        refine j7_ialdM hx hb hK hh_16 hB152 1 rfl (by decide) hg_za (x := a3.toInt) (rfl) (by omega) (j := 2) rfl dX13_withParts_77 (fun z_21 ez_21 (hz_21 : True) => ?_)
        have hqz_21 : z_21.toInt = jSo D_16.a (a3.toInt) := by unfold jSo; rw [ez_21]
        first | rw [hs3.2.2.1] at hqz_21 | skip
        refine j7_ialdM hx hb hK hh_16 hB153 1 rfl (by decide) hg_zb (x := z_21.toInt) (rfl) (by omega) (j := 3) rfl dX13_withParts_78 (fun z_22 ez_22 (hz_22 : True) => ?_)
        have hqz_22 : z_22.toInt = jSo D_16.b (z_21.toInt) := by unfold jSo; rw [ez_22]
        first | rw [hqz_21, hs4.2.2.2.1] at hqz_22 | skip
        refine j7_ialdM hx hb hK hh_16 hB153 1 rfl (by decide) hg_zb (x := z_22.toInt) (rfl) (by omega) (j := 3) rfl dX13_withParts_79 (fun z_23 ez_23 (hz_23 : True) => ?_)
        have hqz_23 : z_23.toInt = jSo D_16.b (z_22.toInt) := by unfold jSo; rw [ez_23]
        refine va_calli (A0 := jA base) (H0 := s.heap) (va_runV (As := [.int z_23]) (rest := []) ⟨hx, hb, hml, hown, hts⟩ (ih (d - 1) (by omega) G0 H_16 r0 z_23 qn_16 qu_16 py pb zs zn za zb zc zy hi D_16) (cwV 1 hts (jgV (jWr_65 _ (List.mem_of_getElem? (i := 7) rfl)) (jWr_65 _ (List.mem_of_getElem? (i := 8) rfl)) (jWr_65 _ (List.mem_of_getElem? (i := 9) rfl)) (jWr_12 _ (List.mem_of_getElem? (i := 12) rfl)) (jWr_65 _ (List.mem_of_getElem? (i := 10) rfl))) rfl rfl rfl (by decide +kernel) ⟨by rw [← hR]; show (2 * (d - 1) + 4) + 1 ≤ 2 * d + 3; omega, by rw [← hR]; show 8 + (4 + 11) + (60 * (d - 1) + 200) ≤ 60 * d + 165; omega⟩) ⟨fun a U g mk q => by obtain ⟨q0, q1, q2, qK, q10, q11, q12, q13, q14, q15, q16, q17, q18, q19⟩ := q; exact ⟨q0, q1, q2, jG.calling g mk a qK, q10, q11, q12, q13, q14, q15, q16, q17, q18, q19⟩, hh_16.recv (C := RX13) (T := TX13) (N := 50) hB15 rfl (by decide) hg_r0 hK, fun U hU hW => ⟨rfl, hU, hh_16.2.1, hG.step hW hU hh_16.1, hg_r0, hg_zs, hg_zn, hg_za, hg_zb, hg_zc, hg_zy, (hh_16.2.2.1.sub (L1 := [(r0, 15, 5, .int qn_16), (r0, 15, 34, .int qu_16), (r0, 15, 11, .int py), (r0, 15, 36, .int pb), (r0, 15, 0, .ref zs), (r0, 15, 1, .ref zn), (r0, 15, 2, .ref za), (r0, 15, 3, .ref zb), (r0, 15, 4, .ref zc), (r0, 15, 14, .ref zy)]) [0, 1, 2, 3, 4, 5, 6, 7, 8, 9] rfl), (hh_16.2.2.2.2.2.2.2.1.sub (L1 := [(zs, 150, 120000, ca 1, D_16.s), (zn, 151, 120000, ca 1, D_16.n), (za, 152, 120000, ca 1, D_16.a), (zb, 153, 120000, ca 1, D_16.b), (zc, 154, 120000, ca 1, D_16.c), (zy, 165, 16, ca 1, D_16.y)]) [0, 1, 2, 3, 4, 5] rfl), ⟨(by first | assumption | (rw [hqz_23, hqz_22, hs5.2.2.2.1]; exact p3.1.agK hA2 (by omega)) | (rw [hqz_23, hqz_22, hs5.2.2.2.1]; omega) | omega), (by first | omega | rfl | assumption | (rw [hqz_23, hqz_22, hs5.2.2.2.1]; exact p3.1.agK hA2 (by omega)) | (rw [hqz_23, hqz_22, hs5.2.2.2.1]; omega)), (by first | omega | rfl | assumption | (rw [hqz_23, hqz_22, hs5.2.2.2.1]; exact p3.1.agK hA2 (by omega)) | (rw [hqz_23, hqz_22, hs5.2.2.2.1]; omega)), (by first | omega | rfl | assumption | (rw [hqz_23, hqz_22, hs5.2.2.2.1]; exact p3.1.agK hA2 (by omega)) | (rw [hqz_23, hqz_22, hs5.2.2.2.1]; omega)), (by first | omega | rfl | assumption | (rw [hqz_23, hqz_22, hs5.2.2.2.1]; exact p3.1.agK hA2 (by omega)) | (rw [hqz_23, hqz_22, hs5.2.2.2.1]; omega)), (by first | omega | rfl | assumption | (rw [hqz_23, hqz_22, hs5.2.2.2.1]; exact p3.1.agK hA2 (by omega)) | (rw [hqz_23, hqz_22, hs5.2.2.2.1]; omega)), (by first | omega | rfl | assumption | (rw [hqz_23, hqz_22, hs5.2.2.2.1]; exact p3.1.agK hA2 (by omega)) | (rw [hqz_23, hqz_22, hs5.2.2.2.1]; omega)), (by first | omega | rfl | assumption | (rw [hqz_23, hqz_22, hs5.2.2.2.1]; exact p3.1.agK hA2 (by omega)) | (rw [hqz_23, hqz_22, hs5.2.2.2.1]; omega)), (by first | omega | rfl | assumption | (rw [hqz_23, hqz_22, hs5.2.2.2.1]; exact p3.1.agK hA2 (by omega)) | (rw [hqz_23, hqz_22, hs5.2.2.2.1]; omega)), (by first | omega | rfl | assumption | (rw [hqz_23, hqz_22, hs5.2.2.2.1]; exact p3.1.agK hA2 (by omega)) | (rw [hqz_23, hqz_22, hs5.2.2.2.1]; omega)), (by first | omega | rfl | assumption | (rw [hqz_23, hqz_22, hs5.2.2.2.1]; exact p3.1.agK hA2 (by omega)) | (rw [hqz_23, hqz_22, hs5.2.2.2.1]; omega))⟩⟩⟩ rfl rfl hl.1 rfl (lv_room (Nat.le_of_ble_eq_true rfl)) dX13_withParts_80 ⟨Nat.zero_le _, Nat.zero_le _⟩) hh_16.1 (fun q _ h => h) (fun q h => h) (fun r_25 u_24 t_24 H_24 locs_24 ht_24 hvm_24 hr_25 hb_24 hz_24 hk_24 hS_24 => ?_)
        obtain ⟨qn_24, qu_24, D_24⟩ := u_24
        rw [ht_24] at hb_24
        obtain ⟨⟨hb_241, hb_242, hb_243, hb_244, hb_245⟩, hb_246⟩ := hb_24
        have hh_24 : jSt (dC, dI) B base G0 G0 EX13_withParts s.heap 0 0 [(r0, 15, 5, .int qn_24), (r0, 15, 34, .int qu_24), (r0, 15, 11, .int py), (r0, 15, 36, .int pb), (r0, 15, 0, .ref zs), (r0, 15, 1, .ref zn), (r0, 15, 2, .ref za), (r0, 15, 3, .ref zb), (r0, 15, 4, .ref zc), (r0, 15, 14, .ref zy)] [(zs, 150, 120000, ca 1, D_24.s), (zn, 151, 120000, ca 1, D_24.n), (za, 152, 120000, ca 1, D_24.a), (zb, 153, 120000, ca 1, D_24.b), (zc, 154, 120000, ca 1, D_24.c), (zy, 165, 16, ca 1, D_24.y), (zy, 165, 16, ca 1, D_16.y), (zy, 165, 16, ca 1, D_8.y), (zy, 165, 16, ca 1, C.y)] [] H_24 locs_24 := ((hh_16.call hb_241 hb_242 hb_243 hb_244 hS_24 rfl (L1 := [(r0, 15, 11, .int py), (r0, 15, 36, .int pb), (r0, 15, 0, .ref zs), (r0, 15, 1, .ref zn), (r0, 15, 2, .ref za), (r0, 15, 3, .ref zb), (r0, 15, 4, .ref zc), (r0, 15, 14, .ref zy)]) [2, 3, 4, 5, 6, 7, 8, 9] rfl rfl (M1 := [(zy, 165, 16, ca 1, D_16.y), (zy, 165, 16, ca 1, D_8.y), (zy, 165, 16, ca 1, C.y)]) [5, 6, 7] rfl rfl (I1 := []) [] rfl rfl).more hb_245).moreM hb_246
        clear hh_16 ht_24 hvm_24 hz_24 hk_24 hS_24 hb_241 hb_242 hb_243 hb_244 hb_245
        clear hb_246
        try simp only at hr_25
        obtain ⟨hr_25_0, hr_25_1, hr_25_2, hr_25_3, hr_25_4, hr_25_5⟩ := hr_25
        rw [hqz_23, hqz_22, hs5.2.2.2.1] at hr_25_1 hr_25_5
        refine lv_istore (lv' := [(7, .int r_25), (6, .int r_17), (5, .int r_9), (4, .int z_1), (0, .ref r0), (1, .int a1), (2, .int a2), (3, .int a3)]) hx hb dX13_withParts_83 hl (by decide) rfl (fun ls hl => ?_)
        refine lv_aload_n hx hb dX13_withParts_85 rfl (lv_at hl 4 rfl) ?_
        refine lv_iload_n hx hb dX13_withParts_86 rfl (lv_at hl 5 rfl) ?_
        refine lv_iload_n hx hb dX13_withParts_87 rfl (lv_at hl 6 rfl) ?_
        refine lv_iload hx hb dX13_withParts_88 (lv_at hl 2 rfl) ?_
        refine lv_iload hx hb dX13_withParts_90 (lv_at hl 1 rfl) ?_
        refine lv_iload hx hb dX13_withParts_92 (lv_at hl 0 rfl) ?_
        refine va_calli (A0 := jA base) (H0 := s.heap) (va_runV (As := [.int a1, .int a2, .int r_9, .int r_17, .int r_25]) (rest := []) ⟨hx, hb, hml, hown, hts⟩ (uX13_nodeK l dC dI ca base B hB hAp hB15 hB150 hB151 hB152 hB153 hB154 hB165 G0 H_24 r0 a1 a2 r_9 r_17 r_25 qn_24 zs zn za zb zc zy D_24) (cwV 5 hts (jgV (jWr_62 _ (List.mem_of_getElem? (i := 9) rfl)) (jWr_62 _ (List.mem_of_getElem? (i := 10) rfl)) (jWr_62 _ (List.mem_of_getElem? (i := 11) rfl)) (jWr_12 _ (List.mem_of_getElem? (i := 12) rfl)) (jWr_62 _ (List.mem_of_getElem? (i := 12) rfl))) rfl rfl rfl (by decide +kernel) ⟨by rw [← hR]; show (0) + 1 ≤ 2 * d + 3; omega, by rw [← hR]; show 8 + (6 + 11) + (0) ≤ 60 * d + 165; omega⟩) ⟨fun a U g mk q => by obtain ⟨q0, q1, q2, qK, q10, q11, q12, q13, q14, q15, q16, q17, q18, q19⟩ := q; exact ⟨q0, q1, q2, jG.calling g mk a qK, q10, q11, q12, q13, q14, q15, q16, q17, q18, q19⟩, hh_24.recv (C := RX13) (T := TX13) (N := 50) hB15 rfl (by decide) hg_r0 hK, fun U hU hW => ⟨rfl, hU, hh_24.2.1, hG.step hW hU hh_24.1, hg_r0, hg_zs, hg_zn, hg_za, hg_zb, hg_zc, hg_zy, (hh_24.2.2.1.sub (L1 := [(r0, 15, 5, .int qn_24), (r0, 15, 0, .ref zs), (r0, 15, 1, .ref zn), (r0, 15, 2, .ref za), (r0, 15, 3, .ref zb), (r0, 15, 4, .ref zc), (r0, 15, 14, .ref zy)]) [0, 4, 5, 6, 7, 8, 9] rfl), (hh_24.2.2.2.2.2.2.2.1.sub (L1 := [(zs, 150, 120000, ca 1, D_24.s), (zn, 151, 120000, ca 1, D_24.n), (za, 152, 120000, ca 1, D_24.a), (zb, 153, 120000, ca 1, D_24.b), (zc, 154, 120000, ca 1, D_24.c), (zy, 165, 16, ca 1, D_24.y)]) [0, 1, 2, 3, 4, 5] rfl), by first | omega | (refine ⟨?_, ?_⟩ <;> (first | omega | rfl | assumption | decide | exact Or.inl rfl | exact Or.inr rfl | (simp only; omega)))⟩⟩ rfl rfl hl.1 rfl (lv_room (Nat.le_of_ble_eq_true rfl)) dX13_withParts_94 ⟨Nat.zero_le _, Nat.zero_le _⟩) hh_24.1 (fun q _ h => h) (fun q h => h) (fun r_27 u_26 t_26 H_26 locs_26 ht_26 hvm_26 hr_27 hb_26 hz_26 hk_26 hS_26 => ?_)
        obtain ⟨qn_26, D_26⟩ := u_26
        rw [ht_26] at hb_26
        obtain ⟨⟨hb_261, hb_262, hb_263, hb_264, hb_265⟩, hb_266⟩ := hb_26
        have hh_26 : jSt (dC, dI) B base G0 G0 EX13_withParts s.heap 0 0 [(r0, 15, 5, .int qn_26), (r0, 15, 34, .int qu_24), (r0, 15, 11, .int py), (r0, 15, 36, .int pb), (r0, 15, 0, .ref zs), (r0, 15, 1, .ref zn), (r0, 15, 2, .ref za), (r0, 15, 3, .ref zb), (r0, 15, 4, .ref zc), (r0, 15, 14, .ref zy)] [(zs, 150, 120000, ca 1, D_26.s), (zn, 151, 120000, ca 1, D_26.n), (za, 152, 120000, ca 1, D_26.a), (zb, 153, 120000, ca 1, D_26.b), (zc, 154, 120000, ca 1, D_26.c), (zy, 165, 16, ca 1, D_26.y), (zy, 165, 16, ca 1, D_24.y), (zy, 165, 16, ca 1, D_16.y), (zy, 165, 16, ca 1, D_8.y), (zy, 165, 16, ca 1, C.y)] [] H_26 locs_26 := ((hh_24.call hb_261 hb_262 hb_263 hb_264 hS_26 rfl (L1 := [(r0, 15, 34, .int qu_24), (r0, 15, 11, .int py), (r0, 15, 36, .int pb), (r0, 15, 0, .ref zs), (r0, 15, 1, .ref zn), (r0, 15, 2, .ref za), (r0, 15, 3, .ref zb), (r0, 15, 4, .ref zc), (r0, 15, 14, .ref zy)]) [1, 2, 3, 4, 5, 6, 7, 8, 9] rfl rfl (M1 := [(zy, 165, 16, ca 1, D_24.y), (zy, 165, 16, ca 1, D_16.y), (zy, 165, 16, ca 1, D_8.y), (zy, 165, 16, ca 1, C.y)]) [5, 6, 7, 8] rfl rfl (I1 := []) [] rfl rfl).more hb_265).moreM hb_266
        clear hh_24 ht_26 hvm_26 hz_26 hk_26 hS_26 hb_261 hb_262 hb_263 hb_264 hb_265
        clear hb_266
        try simp only at hr_27
        obtain ⟨hr_27_0, hr_27_1, hr_27_2⟩ := hr_27
        rw [hQ]
        exact W.iret (v := r_27) hx hb hr (fun t ht hW => ⟨⟨r_27, (qn_26, qu_24, D_26), rfl, by
    try dsimp only
    refine ⟨by omega, by omega, by omega, by omega, ((hr_9_4.tr hr_17_4 (by omega)).tr hr_25_4 (by omega)).tr hr_27_2.1 (by omega), fun h9 => ?_⟩
    obtain ⟨f0, s0⟩ := hr_9_5 (by omega)
    have t0 := jsz_ag (hr_17_4.tr hr_25_4 (by omega)) f0
    have f0 := jFm.ag (M := qn_24.toInt) (hr_17_4.tr hr_25_4 (by omega)) (by omega) f0
    obtain ⟨f1, s1⟩ := hr_17_5 (by omega)
    have t1 := jsz_ag (hr_25_4) f1
    have f1 := jFm.ag (M := qn_24.toInt) (hr_25_4) (by omega) f1
    obtain ⟨f2, s2⟩ := hr_25_5 (by omega)
    have hy : jSo D_24.y a2.toInt = jSo C.c a3.toInt := by rw [← hp2]; unfold jSo; rw [(((hr_9_4.tr hr_17_4 (by omega)).tr hr_25_4 (by omega))).2]
    have k := jMk7 (m := jSo C.c a3.toInt) (d := d - 1) (b := pb.toInt) (Y := py.toInt) hr_27_2 (by omega) (by omega) hy (by omega) (by omega) (by omega) (fun _ => f0) (fun _ => f1) (fun _ => f2)
    have k2 := k.2.2.2.2 (by omega)
    have k1 := k.1
    rw [show d - 1 + 1 = d by omega] at k1
    rw [hr_27_0, hr_27_1]
    exact ⟨k1, by omega⟩, ⟨hh_26.rt (M1 := [(r0, 15, 5, .int qn_26), (r0, 15, 34, .int qu_24)]) [0, 1] rfl ht, by rw [ht]; exact hh_26.2.2.2.2.2.2.2.1.sub [0, 1, 2, 3, 4, 5] rfl⟩⟩, by rw [ht]; try exact hh_26.1.1, fun q h9 hq => by rw [ht]; try exact hh_26.1.2.1 q h9 hq⟩) hh_26.1.2.2 dX13_withParts_97
set_option maxHeartbeats 4000000 in
set_option maxRecDepth 20000 in
theorem uX13_meantTerm (l : Launch) (dC : Nat → ClassId) (dI : Nat → Nat → Nat) (ca : Nat → ClassId) (base : Nat) (B : jF) (hB : jBok B) (hAp : jAp (dC, dI)) (hB15 : ∀ n G a H, B 15 n G a H ↔ jOb (dC, dI) 15 50 (F15 n G) a H) (hB103 : ∀ n G a H, B 103 n G a H ↔ jAr (dC, dI) (ca 3) (fun j z => (z = 0 ∨ z = 1)) n a H) (hB150 : ∀ n G a H, B 150 n G a H ↔ jAr (dC, dI) (ca 1) (fun j z => True) n a H) (hB151 : ∀ n G a H, B 151 n G a H ↔ jAr (dC, dI) (ca 1) (fun j z => True) n a H) (hB152 : ∀ n G a H, B 152 n G a H ↔ jAr (dC, dI) (ca 1) (fun j z => True) n a H) (hB153 : ∀ n G a H, B 153 n G a H ↔ jAr (dC, dI) (ca 1) (fun j z => True) n a H) (hB154 : ∀ n G a H, B 154 n G a H ↔ jAr (dC, dI) (ca 1) (fun j z => True) n a H) (hB158 : ∀ n G a H, B 158 n G a H ↔ jAr (dC, dI) (ca 1) (fun j z => 0 ≤ z.toInt ∧ z.toInt ≤ 6) n a H) (hB163 : ∀ n G a H, B 163 n G a H ↔ jAr (dC, dI) (ca 1) (fun j z => 0 ≤ z.toInt ∧ z.toInt ≤ 1599) n a H) (hB165 : ∀ n G a H, B 165 n G a H ↔ jAr (dC, dI) (ca 1) (fun j z => 0 ≤ z.toInt ∧ z.toInt ≤ 3) n a H) (d : Nat) (hW : qX13_withParts l dC dI ca base B d) (G0 : jT) (H0 : Heap) (r0 : Nat) (a1 : Int32) (pn : Int32) (pu : Int32) (py : Int32) (pb : Int32) (zs : Nat) (zn : Nat) (za : Nat) (zb : Nat) (zc : Nat) (zy : Nat) (hi : Int) (C : jK) : Met l yX13_meantTerm (jw yX13_meantTerm cX13_meantTerm 4 (some .int)) ({ frames := 2 * d + 4, cells := 0, slots := 0, locals := 60 * d + 200 }) (va_Pc [.ref r0, .int a1] (fun U => U.heap = H0 ∧ jX B base G0 [] H0 ∧ jG dC dI ca base U ∧ G0 r0 = some (15, 0) ∧ G0 zs = some (150, 120000) ∧ G0 zn = some (151, 120000) ∧ G0 za = some (152, 120000) ∧ G0 zb = some (153, 120000) ∧ G0 zc = some (154, 120000) ∧ G0 zy = some (165, 16) ∧ jP (dC, dI) G0 H0 [(r0, 15, 5, .int pn), (r0, 15, 34, .int pu), (r0, 15, 11, .int py), (r0, 15, 36, .int pb), (r0, 15, 0, .ref zs), (r0, 15, 1, .ref zn), (r0, 15, 2, .ref za), (r0, 15, 3, .ref zb), (r0, 15, 4, .ref zc), (r0, 15, 14, .ref zy)] ∧ jMc (dC, dI) G0 H0 [(zs, 150, 120000, ca 1, C.s), (zn, 151, 120000, ca 1, C.n), (za, 152, 120000, ca 1, C.a), (zb, 153, 120000, ca 1, C.b), (zc, 154, 120000, ca 1, C.c), (zy, 165, 16, ca 1, C.y)] ∧ jRtm C d a1.toInt hi ∧ hi ≤ pn.toInt ∧ pn.toInt + (hi - a1.toInt) ≤ 119999 ∧ 0 ≤ pu.toInt ∧ pu.toInt ≤ 9 ∧ 0 ≤ py.toInt ∧ py.toInt ≤ 16 ∧ 0 ≤ pb.toInt ∧ pb.toInt ≤ 199 ∧ 0 ≤ pn.toInt ∧ d ≤ 20)) (va_Qi (S := Int32 × Int32 × jK) (fun r u => (pn.toInt ≤ u.1.toInt ∧ u.1.toInt ≤ pn.toInt + (hi - a1.toInt) ∧ pu.toInt ≤ u.2.1.toInt ∧ u.2.1.toInt ≤ 9 ∧ jAgK C u.2.2 pn.toInt ∧ (u.2.1.toInt ≤ 0 → jFm u.2.2 u.1.toInt py.toInt d pb.toInt r.toInt ∧ jsz u.2.2 r.toInt ≤ hi - a1.toInt))) (fun u t => jRt (dC, dI) B base G0 EX13_meantTerm H0 [(r0, 15, 5, .int u.1), (r0, 15, 34, .int u.2.1)] t.heap ∧ jMc (dC, dI) G0 t.heap [(zs, 150, 120000, ca 1, u.2.2.s), (zn, 151, 120000, ca 1, u.2.2.n), (za, 152, 120000, ca 1, u.2.2.a), (zb, 153, 120000, ca 1, u.2.2.b), (zc, 154, 120000, ca 1, u.2.2.c), (zy, 165, 16, ca 1, u.2.2.y)]) (jA base)) 0 0 (jA base) := by
  refine Met.ofW (cc := cX13_meantTerm) (maxL := 4) (ret := (some .int)) (by decide) rfl ?_
  intro p e s m args below meth c s₁ Bd hml hv
  obtain ⟨rfl, hH0, hX, hG, hg_r0, hg_zs, hg_zn, hg_za, hg_zb, hg_zc, hg_zy, hP0, hM0, hp0, hp1, hp2, hp3, hp4, hp5, hp6, hp7, hp8, hp9, hp10⟩ := hv
  have hK := hG.1
  have hx := Bd.exec
  have hb := Bd.bytes
  have hr := Bd.returns
  have hts := atoms_spec (ws := (jw yX13_meantTerm cX13_meantTerm 4 (some .int))) Bd.pre
  have htw : ∀ w ∈ jWl, w.before _ s = true := fun w h => hts w (List.mem_cons_of_mem _ h)
  have hown : s.vm.findClass RX13 = some m.cls := findClass_of_methodNamed Bd.named
  have hlocks := Bd.notSynchronized
  obtain ⟨Q, hQ⟩ : ∃ Q, Q = MQ below (va_Qi (S := Int32 × Int32 × jK) (fun r u => (pn.toInt ≤ u.1.toInt ∧ u.1.toInt ≤ pn.toInt + (hi - a1.toInt) ∧ pu.toInt ≤ u.2.1.toInt ∧ u.2.1.toInt ≤ 9 ∧ jAgK C u.2.2 pn.toInt ∧ (u.2.1.toInt ≤ 0 → jFm u.2.2 u.1.toInt py.toInt d pb.toInt r.toInt ∧ jsz u.2.2 r.toInt ≤ hi - a1.toInt))) (fun u t => jRt (dC, dI) B base G0 EX13_meantTerm H0 [(r0, 15, 5, .int u.1), (r0, 15, 34, .int u.2.1)] t.heap ∧ jMc (dC, dI) G0 t.heap [(zs, 150, 120000, ca 1, u.2.2.s), (zn, 151, 120000, ca 1, u.2.2.n), (za, 152, 120000, ca 1, u.2.2.a), (zb, 153, 120000, ca 1, u.2.2.b), (zc, 154, 120000, ca 1, u.2.2.c), (zy, 165, 16, ca 1, u.2.2.y)]) (jA base)) ([.ref r0, .int a1] : List Value).toArray s 0 0 (jA base) := ⟨_, rfl⟩
  rw [← hQ]
  have hl := lv_entry ([.ref r0, .int a1]) (n := 4) (Nat.le_of_ble_eq_true rfl)
  rw [lg_entry_eq]
  generalize (lg_sl ([.ref r0, .int a1]) ++ List.replicate (4 - (lg_sl ([.ref r0, .int a1])).length) Slot.unset).toArray = ls at hl ⊢
  have hl : lv_has ls 4 [(0, .ref r0), (1, .int a1)] := hl
  generalize hR : (headSpec (jw yX13_meantTerm cX13_meantTerm 4 (some .int)) ({ frames := 2 * d + 4, cells := 0, slots := 0, locals := 60 * d + 200 })).room = R
  subst hH0
  have hh : jSt (dC, dI) B base G0 G0 EX13_meantTerm s.heap 0 0 [(r0, 15, 5, .int pn), (r0, 15, 34, .int pu), (r0, 15, 11, .int py), (r0, 15, 36, .int pb), (r0, 15, 0, .ref zs), (r0, 15, 1, .ref zn), (r0, 15, 2, .ref za), (r0, 15, 3, .ref zb), (r0, 15, 4, .ref zc), (r0, 15, 14, .ref zy)] [(zs, 150, 120000, ca 1, C.s), (zn, 151, 120000, ca 1, C.n), (za, 152, 120000, ca 1, C.a), (zb, 153, 120000, ca 1, C.b), (zc, 154, 120000, ca 1, C.c), (zy, 165, 16, ca 1, C.y)] [] s.heap [] := jSt.start hX hP0 hM0 jIs.nil
  clear hX hP0
  have hk0 : (0 : Int32).toInt = 0 := by decide
  have hk1 : (1 : Int32).toInt = 1 := by decide
  have hk5 : (5 : Int32).toInt = 5 := by decide
  have hk8 : (8 : Int32).toInt = 8 := by decide
  have hk9 : (9 : Int32).toInt = 9 := by decide
  have hk10 : (10 : Int32).toInt = 10 := by decide
  have hly_15_1 := htw (u_lay RX13 TX13 1) (jWc_wsX130 _ (u_in_lay (by decide)))
  have hly_15_4 := htw (u_lay RX13 TX13 4) (jWc_wsX130 _ (u_in_lay (by decide)))
  have hly_15_13 := htw (u_lay RX13 TX13 13) (jWc_wsX130 _ (u_in_lay (by decide)))
  have hly_15_14 := htw (u_lay RX13 TX13 14) (jWc_wsX130 _ (u_in_lay (by decide)))
  have hly_15_34 := htw (u_lay RX13 TX13 34) (jWc_wsX130 _ (u_in_lay (by decide)))
  have hly_15_35 := htw (u_lay RX13 TX13 35) (jWc_wsX130 _ (u_in_lay (by decide)))
  have hly_15_36 := htw (u_lay RX13 TX13 36) (jWc_wsX130 _ (u_in_lay (by decide)))
  have hlk_221 := (htw (.fieldLink RX13 221 "ProofServerModel$Kernel" "fault" "I") (jWr_60 _ (List.mem_of_getElem? (i := 3) rfl)))
  have hlk_16 := (htw (.fieldLink RX13 16 "ProofServerModel$Kernel" "name" "[I") (jWr_14 _ (List.mem_of_getElem? (i := 10) rfl)))
  have hlk_242 := (htw (.fieldLink RX13 242 "ProofServerModel$Kernel" "binders" "I") (jWr_60 _ (List.mem_of_getElem? (i := 4) rfl)))
  have hlk_77 := (htw (.fieldLink RX13 77 "ProofServerModel$Kernel" "binder" "[I") (jWr_15 _ (List.mem_of_getElem? (i := 6) rfl)))
  have hlk_25 := (htw (.fieldLink RX13 25 "ProofServerModel$Kernel" "three" "[I") (jWr_14 _ (List.mem_of_getElem? (i := 13) rfl)))
  have hlk_40 := (htw (.fieldLink RX13 40 "ProofServerModel$Kernel" "predicate" "[Z") (jWr_14 _ (List.mem_of_getElem? (i := 18) rfl)))
  have hlk_44 := (htw (.fieldLink RX13 44 "ProofServerModel$Kernel" "arity" "[I") (jWr_14 _ (List.mem_of_getElem? (i := 19) rfl)))
  have hrg_a1 := jb_rng a1
  have ho := hp0.ok
  refine lv_aload_n hx hb dX13_meantTerm_0 rfl (lv_at hl 0 rfl) ?_
  refine j7_read hx hb hown hK (C := RX13) (T := TX13) (N := 50) rfl hly_15_34 hlk_221 (hh.at 1 rfl) dX13_meantTerm_1 ?_
  refine lv_if_le (tgt := 9) hx hb dX13_meantTerm_4 (by decide) (fun c_1 => ?_) (fun c_1 => ?_)
  · skip
    have c_1' : pu.toInt ≤ 0 := jb_le (rfl) ((by decide)) c_1
    refine lv_aload_n hx hb dX13_meantTerm_9 rfl (lv_at hl 0 rfl) ?_
    refine j7_read hx hb hown hK (C := RX13) (T := TX13) (N := 50) rfl hly_15_1 hlk_16 (hh.at 5 rfl) dX13_meantTerm_10 ?_
    refine lv_iload_n hx hb dX13_meantTerm_13 rfl (lv_at hl 1 rfl) ?_
    refine j7_ialdM hx hb hK hh hB151 1 rfl (by decide) hg_zn (x := a1.toInt) (rfl) (by omega) (j := 1) rfl dX13_meantTerm_14 (fun z_2 ez_2 (hz_2 : True) => ?_)
    have hqz_2 : z_2.toInt = jSo C.n (a1.toInt) := by unfold jSo; rw [ez_2]
    refine lv_istore_n (lv' := [(2, .int z_2), (0, .ref r0), (1, .int a1)]) hx hb dX13_meantTerm_15 rfl hl (by decide) rfl (fun ls hl => ?_)
    refine lv_aload_n hx hb dX13_meantTerm_16 rfl (lv_at hl 1 rfl) ?_
    refine j7_read hx hb hown hK (C := RX13) (T := TX13) (N := 50) rfl hly_15_36 hlk_242 (hh.at 3 rfl) dX13_meantTerm_17 ?_
    refine lv_iconst (v := 1) hx hb dX13_meantTerm_20 (by decide) ?_
    refine lv_isub hx hb dX13_meantTerm_21 ?_
    refine lv_topi (fun z_3 ez_3 => ?_)
    have hz_3 : z_3.toInt = pb.toInt - 1 := by rw [ez_3]; exact jb_isub2 (rfl) ((by decide)) (by omega)
    refine lv_istore_n (lv' := [(3, .int z_3), (2, .int z_2), (0, .ref r0), (1, .int a1)]) hx hb dX13_meantTerm_22 rfl hl (by decide) rfl (fun ls hl => ?_)
    have L23 : ∀ (N : Nat) (v3_4 : Int32) (H_4 : Heap) (locs_4 : List Loc), jSt (dC, dI) B base G0 G0 EX13_meantTerm s.heap 0 0 [(r0, 15, 5, .int pn), (r0, 15, 34, .int pu), (r0, 15, 11, .int py), (r0, 15, 36, .int pb), (r0, 15, 0, .ref zs), (r0, 15, 1, .ref zn), (r0, 15, 2, .ref za), (r0, 15, 3, .ref zb), (r0, 15, 4, .ref zc), (r0, 15, 14, .ref zy)] [(zs, 150, 120000, ca 1, C.s), (zn, 151, 120000, ca 1, C.n), (za, 152, 120000, ca 1, C.a), (zb, 153, 120000, ca 1, C.b), (zc, 154, 120000, ca 1, C.c), (zy, 165, 16, ca 1, C.y)] [] H_4 locs_4 → (-1 ≤ v3_4.toInt ∧ v3_4.toInt ≤ pb.toInt - 1) → (v3_4.toInt + 1 : Int) < N → ∀ ls : Array Slot, lv_has ls 4 [(0, .ref r0), (1, .int a1), (2, .int z_2), (3, .int v3_4)] → W p l e R s m ([.ref r0, .int a1] : List Value).toArray below meth c H_4 locs_4 0 0 Q (F0 m 23 ls []) := by
      intro N
      induction N with
      | zero => intro v3_4 H_4 locs_4 hh_4  hi_4 hm; exact absurd hm (by omega)
      | succ N L23 =>
        intro v3_4 H_4 locs_4 hh_4  hi_4 hm_4 ls hl
        obtain ⟨hi_4_0, hi_4_1⟩ := hi_4
        refine lv_iload_n hx hb dX13_meantTerm_23 rfl (lv_at hl 3 rfl) ?_
        refine lv_if_lt (tgt := 78) hx hb dX13_meantTerm_24 (by decide) (fun c_5 => ?_) (fun c_5 => ?_)
        · skip
          have c_5' : v3_4.toInt < 0 := jb_lt (rfl) ((by decide)) c_5
          refine lv_aload_n hx hb dX13_meantTerm_78 rfl (lv_at hl 0 rfl) ?_
          refine lv_iload_n hx hb dX13_meantTerm_79 rfl (lv_at hl 2 rfl) ?_
          refine va_calli (A0 := jA base) (H0 := s.heap) (va_runV (As := [.int z_2]) (rest := []) ⟨hx, hb, hml, hown, hts⟩ (uX13_isVariable l dC dI ca base B hB hAp hB15 hB158 hB163 G0 H_4 r0 z_2) (cwV 1 hts (jgV (jWr_64 _ (List.mem_of_getElem? (i := 11) rfl)) (jWr_64 _ (List.mem_of_getElem? (i := 12) rfl)) (jWr_64 _ (List.mem_of_getElem? (i := 13) rfl)) (jWr_12 _ (List.mem_of_getElem? (i := 12) rfl)) (jWr_64 _ (List.mem_of_getElem? (i := 14) rfl))) rfl rfl rfl (by decide +kernel) ⟨by rw [← hR]; show (0) + 1 ≤ 2 * d + 4; omega, by rw [← hR]; show 8 + (3 + 11) + (0) ≤ 60 * d + 200; omega⟩) ⟨fun a U g mk q => by obtain ⟨q0, q1, q2, qK, q10, q11, q12⟩ := q; exact ⟨q0, q1, q2, jG.calling g mk a qK, q10, q11, q12⟩, hh_4.recv (C := RX13) (T := TX13) (N := 50) hB15 rfl (by decide) hg_r0 hK, fun U hU hW => ⟨rfl, hU, hh_4.2.1, hG.step hW hU hh_4.1, hg_r0, jP.nil, trivial⟩⟩ rfl rfl hl.1 rfl (lv_room (Nat.le_of_ble_eq_true rfl)) dX13_meantTerm_80 ⟨Nat.zero_le _, Nat.zero_le _⟩) hh_4.1 (fun q _ h => h) (fun q h => h) (fun r_7 u_6 t_6 H_6 locs_6 ht_6 hvm_6 hr_7 hb_6 hz_6 hk_6 hS_6 => ?_)
          rw [ht_6] at hb_6
          obtain ⟨hb_61, hb_62, hb_63, hb_64, hb_65⟩ := hb_6
          have hh_6 : jSt (dC, dI) B base G0 G0 EX13_meantTerm s.heap 0 0 [(r0, 15, 5, .int pn), (r0, 15, 34, .int pu), (r0, 15, 11, .int py), (r0, 15, 36, .int pb), (r0, 15, 0, .ref zs), (r0, 15, 1, .ref zn), (r0, 15, 2, .ref za), (r0, 15, 3, .ref zb), (r0, 15, 4, .ref zc), (r0, 15, 14, .ref zy)] [(zs, 150, 120000, ca 1, C.s), (zn, 151, 120000, ca 1, C.n), (za, 152, 120000, ca 1, C.a), (zb, 153, 120000, ca 1, C.b), (zc, 154, 120000, ca 1, C.c), (zy, 165, 16, ca 1, C.y)] [] H_6 locs_6 := ((hh_4.call hb_61 hb_62 hb_63 hb_64 hS_6 rfl (L1 := [(r0, 15, 5, .int pn), (r0, 15, 34, .int pu), (r0, 15, 11, .int py), (r0, 15, 36, .int pb), (r0, 15, 0, .ref zs), (r0, 15, 1, .ref zn), (r0, 15, 2, .ref za), (r0, 15, 3, .ref zb), (r0, 15, 4, .ref zc), (r0, 15, 14, .ref zy)]) [0, 1, 2, 3, 4, 5, 6, 7, 8, 9] rfl rfl (M1 := [(zs, 150, 120000, ca 1, C.s), (zn, 151, 120000, ca 1, C.n), (za, 152, 120000, ca 1, C.a), (zb, 153, 120000, ca 1, C.b), (zc, 154, 120000, ca 1, C.c), (zy, 165, 16, ca 1, C.y)]) [0, 1, 2, 3, 4, 5] rfl rfl (I1 := []) [] rfl rfl).more hb_65)
          clear hh_4 ht_6 hvm_6 hz_6 hk_6 hS_6 hb_61 hb_62 hb_63 hb_64 hb_65
          obtain ⟨hr_7b, hr_7p⟩ := hr_7
          have hr_7' := jb_01 hr_7b
          refine lv_if_eq (tgt := 111) hx hb dX13_meantTerm_83 (by decide) (fun c_8 => ?_) (fun c_8 => ?_)
          · skip
            have c_8' : r_7.toInt = 0 := jb_eq (rfl) ((by decide)) c_8
            refine lv_aload_n hx hb dX13_meantTerm_111 rfl (lv_at hl 0 rfl) ?_
            refine lv_iload_n hx hb dX13_meantTerm_112 rfl (lv_at hl 2 rfl) ?_
            refine va_calli (A0 := jA base) (H0 := s.heap) (va_runV (As := [.int z_2]) (rest := []) ⟨hx, hb, hml, hown, hts⟩ (uX13_symbolOfK l dC dI ca base B hB hAp hB15 hB163 G0 H_6 r0 z_2 py) (cwV 1 hts (jgV (jWr_64 _ (List.mem_of_getElem? (i := 3) rfl)) (jWr_64 _ (List.mem_of_getElem? (i := 4) rfl)) (jWr_64 _ (List.mem_of_getElem? (i := 5) rfl)) (jWr_12 _ (List.mem_of_getElem? (i := 12) rfl)) (jWr_64 _ (List.mem_of_getElem? (i := 6) rfl))) rfl rfl rfl (by decide +kernel) ⟨by rw [← hR]; show (0) + 1 ≤ 2 * d + 4; omega, by rw [← hR]; show 8 + (3 + 11) + (0) ≤ 60 * d + 200; omega⟩) ⟨fun a U g mk q => by obtain ⟨q0, q1, q2, qK, q10, q11, q12⟩ := q; exact ⟨q0, q1, q2, jG.calling g mk a qK, q10, q11, q12⟩, hh_6.recv (C := RX13) (T := TX13) (N := 50) hB15 rfl (by decide) hg_r0 hK, fun U hU hW => ⟨rfl, hU, hh_6.2.1, hG.step hW hU hh_6.1, hg_r0, (hh_6.2.2.1.sub (L1 := [(r0, 15, 11, .int py)]) [2] rfl), by first | omega | (refine ⟨?_, ?_⟩ <;> (first | omega | rfl | assumption | decide | exact Or.inl rfl | exact Or.inr rfl | (simp only; omega)))⟩⟩ rfl rfl hl.1 rfl (lv_room (Nat.le_of_ble_eq_true rfl)) dX13_meantTerm_113 ⟨Nat.zero_le _, Nat.zero_le _⟩) hh_6.1 (fun q _ h => h) (fun q h => h) (fun r_10 u_9 t_9 H_9 locs_9 ht_9 hvm_9 hr_10 hb_9 hz_9 hk_9 hS_9 => ?_)
            rw [ht_9] at hb_9
            obtain ⟨hb_91, hb_92, hb_93, hb_94, hb_95⟩ := hb_9
            have hh_9 : jSt (dC, dI) B base G0 G0 EX13_meantTerm s.heap 0 0 [(r0, 15, 5, .int pn), (r0, 15, 34, .int pu), (r0, 15, 11, .int py), (r0, 15, 36, .int pb), (r0, 15, 0, .ref zs), (r0, 15, 1, .ref zn), (r0, 15, 2, .ref za), (r0, 15, 3, .ref zb), (r0, 15, 4, .ref zc), (r0, 15, 14, .ref zy)] [(zs, 150, 120000, ca 1, C.s), (zn, 151, 120000, ca 1, C.n), (za, 152, 120000, ca 1, C.a), (zb, 153, 120000, ca 1, C.b), (zc, 154, 120000, ca 1, C.c), (zy, 165, 16, ca 1, C.y)] [] H_9 locs_9 := ((hh_6.call hb_91 hb_92 hb_93 hb_94 hS_9 rfl (L1 := [(r0, 15, 5, .int pn), (r0, 15, 34, .int pu), (r0, 15, 11, .int py), (r0, 15, 36, .int pb), (r0, 15, 0, .ref zs), (r0, 15, 1, .ref zn), (r0, 15, 2, .ref za), (r0, 15, 3, .ref zb), (r0, 15, 4, .ref zc), (r0, 15, 14, .ref zy)]) [0, 1, 2, 3, 4, 5, 6, 7, 8, 9] rfl rfl (M1 := [(zs, 150, 120000, ca 1, C.s), (zn, 151, 120000, ca 1, C.n), (za, 152, 120000, ca 1, C.a), (zb, 153, 120000, ca 1, C.b), (zc, 154, 120000, ca 1, C.c), (zy, 165, 16, ca 1, C.y)]) [0, 1, 2, 3, 4, 5] rfl rfl (I1 := []) [] rfl rfl).more hb_95)
            clear hh_6 ht_9 hvm_9 hz_9 hk_9 hS_9 hb_91 hb_92 hb_93 hb_94 hb_95
            obtain ⟨hr_10_0, hr_10_1⟩ := hr_10
            refine lv_istore_n (lv' := [(3, .int r_10), (0, .ref r0), (1, .int a1), (2, .int z_2)]) hx hb dX13_meantTerm_116 rfl hl (by decide) rfl (fun ls hl => ?_)
            refine lv_iload_n hx hb dX13_meantTerm_117 rfl (lv_at hl 0 rfl) ?_
            refine lv_if_lt (tgt := 145) hx hb dX13_meantTerm_118 (by decide) (fun c_11 => ?_) (fun c_11 => ?_)
            · skip
              have c_11' : r_10.toInt < 0 := jb_lt (rfl) ((by decide)) c_11
              refine lv_aload_n hx hb dX13_meantTerm_145 rfl (lv_at hl 1 rfl) ?_
              refine lv_iconst (v := 5) hx hb dX13_meantTerm_146 (by decide) ?_
              refine va_callv (A0 := jA base) (H0 := s.heap) (va_runV (As := [.int 5]) (rest := []) ⟨hx, hb, hml, hown, hts⟩ (uX13_failsK l dC dI ca base B hB hAp hB15 G0 H_9 r0 5 pu) (cwV 1 hts (jgV (jWr_64 _ (List.mem_of_getElem? (i := 19) rfl)) (jWr_64 _ (List.mem_of_getElem? (i := 20) rfl)) (jWr_64 _ (List.mem_of_getElem? (i := 21) rfl)) (jWr_12 _ (List.mem_of_getElem? (i := 12) rfl)) (jWr_64 _ (List.mem_of_getElem? (i := 22) rfl))) rfl rfl rfl (by decide +kernel) ⟨by rw [← hR]; show (0) + 1 ≤ 2 * d + 4; omega, by rw [← hR]; show 8 + (2 + 11) + (0) ≤ 60 * d + 200; omega⟩) ⟨fun a U g mk q => by obtain ⟨q0, q1, q2, qK, q10, q11, q12⟩ := q; exact ⟨q0, q1, q2, jG.calling g mk a qK, q10, q11, q12⟩, hh_9.recv (C := RX13) (T := TX13) (N := 50) hB15 rfl (by decide) hg_r0 hK, fun U hU hW => ⟨rfl, hU, hh_9.2.1, hG.step hW hU hh_9.1, hg_r0, (hh_9.2.2.1.sub (L1 := [(r0, 15, 34, .int pu)]) [1] rfl), by first | omega | (refine ⟨?_, ?_, ?_, ?_⟩ <;> (first | omega | rfl | assumption | decide | exact Or.inl rfl | exact Or.inr rfl | (simp only; omega)))⟩⟩ rfl rfl hl.1 rfl (lv_room (Nat.le_of_ble_eq_true rfl)) dX13_meantTerm_147 ⟨Nat.zero_le _, Nat.zero_le _⟩) hh_9.1 (fun q _ h => h) (fun q h => h) (fun u_12 t_12 H_12 locs_12 ht_12 hvm_12 hr_13 hb_12 hz_12 hk_12 hS_12 => ?_)
              obtain ⟨qu_12, rfl⟩ : ∃ z, z = u_12 := ⟨_, rfl⟩
              rw [ht_12] at hb_12
              obtain ⟨hb_121, hb_122, hb_123, hb_124, hb_125⟩ := hb_12
              have hh_12 : jSt (dC, dI) B base G0 G0 EX13_meantTerm s.heap 0 0 [(r0, 15, 34, .int qu_12), (r0, 15, 5, .int pn), (r0, 15, 11, .int py), (r0, 15, 36, .int pb), (r0, 15, 0, .ref zs), (r0, 15, 1, .ref zn), (r0, 15, 2, .ref za), (r0, 15, 3, .ref zb), (r0, 15, 4, .ref zc), (r0, 15, 14, .ref zy)] [(zs, 150, 120000, ca 1, C.s), (zn, 151, 120000, ca 1, C.n), (za, 152, 120000, ca 1, C.a), (zb, 153, 120000, ca 1, C.b), (zc, 154, 120000, ca 1, C.c), (zy, 165, 16, ca 1, C.y)] [] H_12 locs_12 := ((hh_9.call hb_121 hb_122 hb_123 hb_124 hS_12 rfl (L1 := [(r0, 15, 5, .int pn), (r0, 15, 11, .int py), (r0, 15, 36, .int pb), (r0, 15, 0, .ref zs), (r0, 15, 1, .ref zn), (r0, 15, 2, .ref za), (r0, 15, 3, .ref zb), (r0, 15, 4, .ref zc), (r0, 15, 14, .ref zy)]) [0, 2, 3, 4, 5, 6, 7, 8, 9] rfl rfl (M1 := [(zs, 150, 120000, ca 1, C.s), (zn, 151, 120000, ca 1, C.n), (za, 152, 120000, ca 1, C.a), (zb, 153, 120000, ca 1, C.b), (zc, 154, 120000, ca 1, C.c), (zy, 165, 16, ca 1, C.y)]) [0, 1, 2, 3, 4, 5] rfl rfl (I1 := []) [] rfl rfl).more hb_125)
              clear hh_9 ht_12 hvm_12 hz_12 hk_12 hS_12 hb_121 hb_122 hb_123 hb_124 hb_125
              obtain ⟨hr_13_0, hr_13_1, hr_13_2, hr_13_3⟩ := hr_13
              refine lv_iconst (v := 0) hx hb dX13_meantTerm_150 (by decide) ?_
              rw [hQ]
              exact W.iret (v := 0) hx hb hr (fun t ht hW => ⟨⟨0, (pn, qu_12, C), rfl, by (try dsimp only); refine ⟨by omega, by omega, by omega, by omega, jAgK.rf _ _, fun h9 => absurd h9 (by omega)⟩, ⟨hh_12.rt (M1 := [(r0, 15, 5, .int pn), (r0, 15, 34, .int qu_12)]) [1, 0] rfl ht, by rw [ht]; exact hh_12.2.2.2.2.2.2.2.1.sub [0, 1, 2, 3, 4, 5] rfl⟩⟩, by rw [ht]; try exact hh_12.1.1, fun q h9 hq => by rw [ht]; try exact hh_12.1.2.1 q h9 hq⟩) hh_12.1.2.2 dX13_meantTerm_151
            · skip
              have c_11' : r_10.toInt ≥ 0 := jb_lt_n (rfl) ((by decide)) c_11
              refine lv_aload_n hx hb dX13_meantTerm_121 rfl (lv_at hl 1 rfl) ?_
              obtain ⟨v_14, hv_14, hh_15⟩ := hh_9.pin (C := RX13) (T := TX13) (N := 50) hB15 rfl (by decide) hg_r0 (i := 13) (by decide) rfl
              clear hh_9
              obtain ⟨predicate_16, rfl, hg_predicate_16⟩ := hv_14
              refine j7_read hx hb hown hK (C := RX13) (T := TX13) (N := 50) rfl hly_15_13 hlk_40 (hh_15.at 0 rfl) dX13_meantTerm_122 ?_
              refine lv_iload_n hx hb dX13_meantTerm_125 rfl (lv_at hl 0 rfl) ?_
              refine j7_zald hx hb hK hh_15 hB103 3 rfl (by decide) hg_predicate_16 (x := r_10.toInt) (rfl) (by omega) dX13_meantTerm_126 (fun z_17 (hz_17 : (z_17 = 0 ∨ z_17 = 1)) => ?_)
              have hz_17' := jb_01 hz_17
              refine lv_if_ne (tgt := 145) hx hb dX13_meantTerm_127 (by decide) (fun c_18 => ?_) (fun c_18 => ?_)
              · skip
                have c_18' : z_17.toInt ≠ 0 := jb_ne (rfl) ((by decide)) c_18
                refine lv_aload_n hx hb dX13_meantTerm_145 rfl (lv_at hl 1 rfl) ?_
                refine lv_iconst (v := 5) hx hb dX13_meantTerm_146 (by decide) ?_
                refine va_callv (A0 := jA base) (H0 := s.heap) (va_runV (As := [.int 5]) (rest := []) ⟨hx, hb, hml, hown, hts⟩ (uX13_failsK l dC dI ca base B hB hAp hB15 G0 H_9 r0 5 pu) (cwV 1 hts (jgV (jWr_64 _ (List.mem_of_getElem? (i := 19) rfl)) (jWr_64 _ (List.mem_of_getElem? (i := 20) rfl)) (jWr_64 _ (List.mem_of_getElem? (i := 21) rfl)) (jWr_12 _ (List.mem_of_getElem? (i := 12) rfl)) (jWr_64 _ (List.mem_of_getElem? (i := 22) rfl))) rfl rfl rfl (by decide +kernel) ⟨by rw [← hR]; show (0) + 1 ≤ 2 * d + 4; omega, by rw [← hR]; show 8 + (2 + 11) + (0) ≤ 60 * d + 200; omega⟩) ⟨fun a U g mk q => by obtain ⟨q0, q1, q2, qK, q10, q11, q12⟩ := q; exact ⟨q0, q1, q2, jG.calling g mk a qK, q10, q11, q12⟩, hh_15.recv (C := RX13) (T := TX13) (N := 50) hB15 rfl (by decide) hg_r0 hK, fun U hU hW => ⟨rfl, hU, hh_15.2.1, hG.step hW hU hh_15.1, hg_r0, (hh_15.2.2.1.sub (L1 := [(r0, 15, 34, .int pu)]) [2] rfl), by first | omega | (refine ⟨?_, ?_, ?_, ?_⟩ <;> (first | omega | rfl | assumption | decide | exact Or.inl rfl | exact Or.inr rfl | (simp only; omega)))⟩⟩ rfl rfl hl.1 rfl (lv_room (Nat.le_of_ble_eq_true rfl)) dX13_meantTerm_147 ⟨Nat.zero_le _, Nat.zero_le _⟩) hh_15.1 (fun q _ h => h) (fun q h => h) (fun u_19 t_19 H_19 locs_19 ht_19 hvm_19 hr_20 hb_19 hz_19 hk_19 hS_19 => ?_)
                obtain ⟨qu_19, rfl⟩ : ∃ z, z = u_19 := ⟨_, rfl⟩
                rw [ht_19] at hb_19
                obtain ⟨hb_191, hb_192, hb_193, hb_194, hb_195⟩ := hb_19
                have hh_19 : jSt (dC, dI) B base G0 G0 EX13_meantTerm s.heap 0 0 [(r0, 15, 34, .int qu_19), (r0, 15, 13, .ref predicate_16), (r0, 15, 5, .int pn), (r0, 15, 11, .int py), (r0, 15, 36, .int pb), (r0, 15, 0, .ref zs), (r0, 15, 1, .ref zn), (r0, 15, 2, .ref za), (r0, 15, 3, .ref zb), (r0, 15, 4, .ref zc), (r0, 15, 14, .ref zy)] [(zs, 150, 120000, ca 1, C.s), (zn, 151, 120000, ca 1, C.n), (za, 152, 120000, ca 1, C.a), (zb, 153, 120000, ca 1, C.b), (zc, 154, 120000, ca 1, C.c), (zy, 165, 16, ca 1, C.y)] [] H_19 locs_19 := ((hh_15.call hb_191 hb_192 hb_193 hb_194 hS_19 rfl (L1 := [(r0, 15, 13, .ref predicate_16), (r0, 15, 5, .int pn), (r0, 15, 11, .int py), (r0, 15, 36, .int pb), (r0, 15, 0, .ref zs), (r0, 15, 1, .ref zn), (r0, 15, 2, .ref za), (r0, 15, 3, .ref zb), (r0, 15, 4, .ref zc), (r0, 15, 14, .ref zy)]) [0, 1, 3, 4, 5, 6, 7, 8, 9, 10] rfl rfl (M1 := [(zs, 150, 120000, ca 1, C.s), (zn, 151, 120000, ca 1, C.n), (za, 152, 120000, ca 1, C.a), (zb, 153, 120000, ca 1, C.b), (zc, 154, 120000, ca 1, C.c), (zy, 165, 16, ca 1, C.y)]) [0, 1, 2, 3, 4, 5] rfl rfl (I1 := []) [] rfl rfl).more hb_195)
                clear hh_15 ht_19 hvm_19 hz_19 hk_19 hS_19 hb_191 hb_192 hb_193 hb_194 hb_195
                obtain ⟨hr_20_0, hr_20_1, hr_20_2, hr_20_3⟩ := hr_20
                refine lv_iconst (v := 0) hx hb dX13_meantTerm_150 (by decide) ?_
                rw [hQ]
                exact W.iret (v := 0) hx hb hr (fun t ht hW => ⟨⟨0, (pn, qu_19, C), rfl, by (try dsimp only); refine ⟨by omega, by omega, by omega, by omega, jAgK.rf _ _, fun h9 => absurd h9 (by omega)⟩, ⟨hh_19.rt (M1 := [(r0, 15, 5, .int pn), (r0, 15, 34, .int qu_19)]) [2, 0] rfl ht, by rw [ht]; exact hh_19.2.2.2.2.2.2.2.1.sub [0, 1, 2, 3, 4, 5] rfl⟩⟩, by rw [ht]; try exact hh_19.1.1, fun q h9 hq => by rw [ht]; try exact hh_19.1.2.1 q h9 hq⟩) hh_19.1.2.2 dX13_meantTerm_151
              · skip
                have c_18' : z_17.toInt = 0 := jb_ne_n (rfl) ((by decide)) c_18
                refine lv_aload_n hx hb dX13_meantTerm_130 rfl (lv_at hl 1 rfl) ?_
                refine j7_read hx hb hown hK (C := RX13) (T := TX13) (N := 50) rfl hly_15_14 hlk_44 (hh_15.at 10 rfl) dX13_meantTerm_131 ?_
                refine lv_iload_n hx hb dX13_meantTerm_134 rfl (lv_at hl 0 rfl) ?_
                refine j7_ialdM hx hb hK hh_15 hB165 1 rfl (by decide) hg_zy (x := r_10.toInt) (rfl) (by omega) (j := 5) rfl dX13_meantTerm_135 (fun z_21 ez_21 (hz_21 : 0 ≤ z_21.toInt ∧ z_21.toInt ≤ 3) => ?_)
                have hqz_21 : z_21.toInt = jSo C.y (r_10.toInt) := by unfold jSo; rw [ez_21]
                refine lv_aload_n hx hb dX13_meantTerm_136 rfl (lv_at hl 1 rfl) ?_
                refine j7_read hx hb hown hK (C := RX13) (T := TX13) (N := 50) rfl hly_15_4 hlk_25 (hh_15.at 9 rfl) dX13_meantTerm_137 ?_
                refine lv_iload_n hx hb dX13_meantTerm_140 rfl (lv_at hl 2 rfl) ?_
                refine j7_ialdM hx hb hK hh_15 hB154 1 rfl (by decide) hg_zc (x := a1.toInt) (rfl) (by omega) (j := 4) rfl dX13_meantTerm_141 (fun z_22 ez_22 (hz_22 : True) => ?_)
                have hqz_22 : z_22.toInt = jSo C.c (a1.toInt) := by unfold jSo; rw [ez_22]
                refine lv_icmp_eq (tgt := 152) hx hb dX13_meantTerm_142 (by decide) (fun c_23 => ?_) (fun c_23 => ?_)
                · skip
                  have c_23' : z_21.toInt = z_22.toInt := jb_eq (rfl) (rfl) c_23
                  refine lv_aload_n hx hb dX13_meantTerm_152 rfl (lv_at hl 1 rfl) ?_
                  refine lv_bipush (v := 8) hx hb dX13_meantTerm_153 (by decide) ?_
                  refine lv_iload_n hx hb dX13_meantTerm_155 rfl (lv_at hl 0 rfl) ?_
                  refine lv_iload_n hx hb dX13_meantTerm_156 rfl (lv_at hl 2 rfl) ?_
                  refine va_calli (A0 := jA base) (H0 := s.heap) (va_runV (As := [.int 8, .int r_10, .int a1]) (rest := []) ⟨hx, hb, hml, hown, hts⟩ (hW G0 H_9 r0 8 r_10 a1 pn pu py pb zs zn za zb zc zy hi C) (cwV 3 hts (jgV (jWr_65 _ (List.mem_of_getElem? (i := 3) rfl)) (jWr_65 _ (List.mem_of_getElem? (i := 4) rfl)) (jWr_65 _ (List.mem_of_getElem? (i := 5) rfl)) (jWr_12 _ (List.mem_of_getElem? (i := 12) rfl)) (jWr_65 _ (List.mem_of_getElem? (i := 6) rfl))) rfl rfl rfl (by decide +kernel) ⟨by rw [← hR]; show (2 * d + 3) + 1 ≤ 2 * d + 4; omega, by rw [← hR]; show 8 + (8 + 11) + (60 * d + 165) ≤ 60 * d + 200; omega⟩) ⟨fun a U g mk q => by obtain ⟨q0, q1, q2, qK, q10, q11, q12, q13, q14, q15, q16, q17, q18, q19⟩ := q; exact ⟨q0, q1, q2, jG.calling g mk a qK, q10, q11, q12, q13, q14, q15, q16, q17, q18, q19⟩, hh_15.recv (C := RX13) (T := TX13) (N := 50) hB15 rfl (by decide) hg_r0 hK, fun U hU hW => ⟨rfl, hU, hh_15.2.1, hG.step hW hU hh_15.1, hg_r0, hg_zs, hg_zn, hg_za, hg_zb, hg_zc, hg_zy, (hh_15.2.2.1.sub (L1 := [(r0, 15, 5, .int pn), (r0, 15, 34, .int pu), (r0, 15, 11, .int py), (r0, 15, 36, .int pb), (r0, 15, 0, .ref zs), (r0, 15, 1, .ref zn), (r0, 15, 2, .ref za), (r0, 15, 3, .ref zb), (r0, 15, 4, .ref zc), (r0, 15, 14, .ref zy)]) [1, 2, 3, 4, 5, 6, 7, 8, 9, 10] rfl), (hh_15.2.2.2.2.2.2.2.1.sub (L1 := [(zs, 150, 120000, ca 1, C.s), (zn, 151, 120000, ca 1, C.n), (za, 152, 120000, ca 1, C.a), (zb, 153, 120000, ca 1, C.b), (zc, 154, 120000, ca 1, C.c), (zy, 165, 16, ca 1, C.y)]) [0, 1, 2, 3, 4, 5] rfl), ⟨(by first | assumption | exact (by rw [← hqz_21, ← hqz_22]; omega) | omega | omega), (by first | omega | rfl | assumption | exact (by rw [← hqz_21, ← hqz_22]; omega) | omega), (by first | omega | rfl | assumption | exact (by rw [← hqz_21, ← hqz_22]; omega) | omega), (by first | omega | rfl | assumption | exact (by rw [← hqz_21, ← hqz_22]; omega) | omega), (by first | omega | rfl | assumption | exact (by rw [← hqz_21, ← hqz_22]; omega) | omega), (by first | omega | rfl | assumption | exact (by rw [← hqz_21, ← hqz_22]; omega) | omega), (by first | omega | rfl | assumption | exact (by rw [← hqz_21, ← hqz_22]; omega) | omega), (by first | omega | rfl | assumption | exact (by rw [← hqz_21, ← hqz_22]; omega) | omega), (by first | omega | rfl | assumption | exact (by rw [← hqz_21, ← hqz_22]; omega) | omega), (by first | omega | rfl | assumption | exact (by rw [← hqz_21, ← hqz_22]; omega) | omega), (by first | omega | rfl | assumption | exact (by rw [← hqz_21, ← hqz_22]; omega) | omega), (by first | omega | rfl | assumption | exact (by rw [← hqz_21, ← hqz_22]; omega) | omega), (by first | omega | rfl | assumption | exact (by rw [← hqz_21, ← hqz_22]; omega) | omega), (by first | omega | rfl | assumption | exact (by rw [← hqz_21, ← hqz_22]; omega) | omega), (by first | omega | rfl | assumption | exact (by rw [← hqz_21, ← hqz_22]; omega) | omega), (by first | omega | rfl | assumption | exact (by rw [← hqz_21, ← hqz_22]; omega) | omega), (by first | omega | rfl | assumption | exact (by rw [← hqz_21, ← hqz_22]; omega) | omega)⟩⟩⟩ rfl rfl hl.1 rfl (lv_room (Nat.le_of_ble_eq_true rfl)) dX13_meantTerm_157 ⟨Nat.zero_le _, Nat.zero_le _⟩) hh_15.1 (fun q _ h => h) (fun q h => h) (fun r_25 u_24 t_24 H_24 locs_24 ht_24 hvm_24 hr_25 hb_24 hz_24 hk_24 hS_24 => ?_)
                  obtain ⟨qn_24, qu_24, D_24⟩ := u_24
                  rw [ht_24] at hb_24
                  obtain ⟨⟨hb_241, hb_242, hb_243, hb_244, hb_245⟩, hb_246⟩ := hb_24
                  have hh_24 : jSt (dC, dI) B base G0 G0 EX13_meantTerm s.heap 0 0 [(r0, 15, 5, .int qn_24), (r0, 15, 34, .int qu_24), (r0, 15, 13, .ref predicate_16), (r0, 15, 11, .int py), (r0, 15, 36, .int pb), (r0, 15, 0, .ref zs), (r0, 15, 1, .ref zn), (r0, 15, 2, .ref za), (r0, 15, 3, .ref zb), (r0, 15, 4, .ref zc), (r0, 15, 14, .ref zy)] [(zs, 150, 120000, ca 1, D_24.s), (zn, 151, 120000, ca 1, D_24.n), (za, 152, 120000, ca 1, D_24.a), (zb, 153, 120000, ca 1, D_24.b), (zc, 154, 120000, ca 1, D_24.c), (zy, 165, 16, ca 1, D_24.y), (zy, 165, 16, ca 1, C.y)] [] H_24 locs_24 := ((hh_15.call hb_241 hb_242 hb_243 hb_244 hS_24 rfl (L1 := [(r0, 15, 13, .ref predicate_16), (r0, 15, 11, .int py), (r0, 15, 36, .int pb), (r0, 15, 0, .ref zs), (r0, 15, 1, .ref zn), (r0, 15, 2, .ref za), (r0, 15, 3, .ref zb), (r0, 15, 4, .ref zc), (r0, 15, 14, .ref zy)]) [0, 3, 4, 5, 6, 7, 8, 9, 10] rfl rfl (M1 := [(zy, 165, 16, ca 1, C.y)]) [5] rfl rfl (I1 := []) [] rfl rfl).more hb_245).moreM hb_246
                  clear hh_15 ht_24 hvm_24 hz_24 hk_24 hS_24 hb_241 hb_242 hb_243 hb_244 hb_245
                  clear hb_246
                  try simp only at hr_25
                  obtain ⟨hr_25_0, hr_25_1, hr_25_2, hr_25_3, hr_25_4, hr_25_5⟩ := hr_25
                  rw [hQ]
                  exact W.iret (v := r_25) hx hb hr (fun t ht hW => ⟨⟨r_25, (qn_24, qu_24, D_24), rfl, by (try dsimp only); refine ⟨by omega, by omega, by omega, by omega, hr_25_4, hr_25_5⟩, ⟨hh_24.rt (M1 := [(r0, 15, 5, .int qn_24), (r0, 15, 34, .int qu_24)]) [0, 1] rfl ht, by rw [ht]; exact hh_24.2.2.2.2.2.2.2.1.sub [0, 1, 2, 3, 4, 5] rfl⟩⟩, by rw [ht]; try exact hh_24.1.1, fun q h9 hq => by rw [ht]; try exact hh_24.1.2.1 q h9 hq⟩) hh_24.1.2.2 dX13_meantTerm_160
                · skip
                  have c_23' : z_21.toInt ≠ z_22.toInt := jb_eq_n (rfl) (rfl) c_23
                  refine lv_aload_n hx hb dX13_meantTerm_145 rfl (lv_at hl 1 rfl) ?_
                  refine lv_iconst (v := 5) hx hb dX13_meantTerm_146 (by decide) ?_
                  refine va_callv (A0 := jA base) (H0 := s.heap) (va_runV (As := [.int 5]) (rest := []) ⟨hx, hb, hml, hown, hts⟩ (uX13_failsK l dC dI ca base B hB hAp hB15 G0 H_9 r0 5 pu) (cwV 1 hts (jgV (jWr_64 _ (List.mem_of_getElem? (i := 19) rfl)) (jWr_64 _ (List.mem_of_getElem? (i := 20) rfl)) (jWr_64 _ (List.mem_of_getElem? (i := 21) rfl)) (jWr_12 _ (List.mem_of_getElem? (i := 12) rfl)) (jWr_64 _ (List.mem_of_getElem? (i := 22) rfl))) rfl rfl rfl (by decide +kernel) ⟨by rw [← hR]; show (0) + 1 ≤ 2 * d + 4; omega, by rw [← hR]; show 8 + (2 + 11) + (0) ≤ 60 * d + 200; omega⟩) ⟨fun a U g mk q => by obtain ⟨q0, q1, q2, qK, q10, q11, q12⟩ := q; exact ⟨q0, q1, q2, jG.calling g mk a qK, q10, q11, q12⟩, hh_15.recv (C := RX13) (T := TX13) (N := 50) hB15 rfl (by decide) hg_r0 hK, fun U hU hW => ⟨rfl, hU, hh_15.2.1, hG.step hW hU hh_15.1, hg_r0, (hh_15.2.2.1.sub (L1 := [(r0, 15, 34, .int pu)]) [2] rfl), by first | omega | (refine ⟨?_, ?_, ?_, ?_⟩ <;> (first | omega | rfl | assumption | decide | exact Or.inl rfl | exact Or.inr rfl | (simp only; omega)))⟩⟩ rfl rfl hl.1 rfl (lv_room (Nat.le_of_ble_eq_true rfl)) dX13_meantTerm_147 ⟨Nat.zero_le _, Nat.zero_le _⟩) hh_15.1 (fun q _ h => h) (fun q h => h) (fun u_26 t_26 H_26 locs_26 ht_26 hvm_26 hr_27 hb_26 hz_26 hk_26 hS_26 => ?_)
                  obtain ⟨qu_26, rfl⟩ : ∃ z, z = u_26 := ⟨_, rfl⟩
                  rw [ht_26] at hb_26
                  obtain ⟨hb_261, hb_262, hb_263, hb_264, hb_265⟩ := hb_26
                  have hh_26 : jSt (dC, dI) B base G0 G0 EX13_meantTerm s.heap 0 0 [(r0, 15, 34, .int qu_26), (r0, 15, 13, .ref predicate_16), (r0, 15, 5, .int pn), (r0, 15, 11, .int py), (r0, 15, 36, .int pb), (r0, 15, 0, .ref zs), (r0, 15, 1, .ref zn), (r0, 15, 2, .ref za), (r0, 15, 3, .ref zb), (r0, 15, 4, .ref zc), (r0, 15, 14, .ref zy)] [(zs, 150, 120000, ca 1, C.s), (zn, 151, 120000, ca 1, C.n), (za, 152, 120000, ca 1, C.a), (zb, 153, 120000, ca 1, C.b), (zc, 154, 120000, ca 1, C.c), (zy, 165, 16, ca 1, C.y)] [] H_26 locs_26 := ((hh_15.call hb_261 hb_262 hb_263 hb_264 hS_26 rfl (L1 := [(r0, 15, 13, .ref predicate_16), (r0, 15, 5, .int pn), (r0, 15, 11, .int py), (r0, 15, 36, .int pb), (r0, 15, 0, .ref zs), (r0, 15, 1, .ref zn), (r0, 15, 2, .ref za), (r0, 15, 3, .ref zb), (r0, 15, 4, .ref zc), (r0, 15, 14, .ref zy)]) [0, 1, 3, 4, 5, 6, 7, 8, 9, 10] rfl rfl (M1 := [(zs, 150, 120000, ca 1, C.s), (zn, 151, 120000, ca 1, C.n), (za, 152, 120000, ca 1, C.a), (zb, 153, 120000, ca 1, C.b), (zc, 154, 120000, ca 1, C.c), (zy, 165, 16, ca 1, C.y)]) [0, 1, 2, 3, 4, 5] rfl rfl (I1 := []) [] rfl rfl).more hb_265)
                  clear hh_15 ht_26 hvm_26 hz_26 hk_26 hS_26 hb_261 hb_262 hb_263 hb_264 hb_265
                  obtain ⟨hr_27_0, hr_27_1, hr_27_2, hr_27_3⟩ := hr_27
                  refine lv_iconst (v := 0) hx hb dX13_meantTerm_150 (by decide) ?_
                  rw [hQ]
                  exact W.iret (v := 0) hx hb hr (fun t ht hW => ⟨⟨0, (pn, qu_26, C), rfl, by (try dsimp only); refine ⟨by omega, by omega, by omega, by omega, jAgK.rf _ _, fun h9 => absurd h9 (by omega)⟩, ⟨hh_26.rt (M1 := [(r0, 15, 5, .int pn), (r0, 15, 34, .int qu_26)]) [2, 0] rfl ht, by rw [ht]; exact hh_26.2.2.2.2.2.2.2.1.sub [0, 1, 2, 3, 4, 5] rfl⟩⟩, by rw [ht]; try exact hh_26.1.1, fun q h9 hq => by rw [ht]; try exact hh_26.1.2.1 q h9 hq⟩) hh_26.1.2.2 dX13_meantTerm_151
          · skip
            have c_8' : r_7.toInt ≠ 0 := jb_eq_n (rfl) ((by decide)) c_8
            refine lv_aload_n hx hb dX13_meantTerm_86 rfl (lv_at hl 0 rfl) ?_
            refine j7_read hx hb hown hK (C := RX13) (T := TX13) (N := 50) rfl hly_15_4 hlk_25 (hh_6.at 8 rfl) dX13_meantTerm_87 ?_
            refine lv_iload_n hx hb dX13_meantTerm_90 rfl (lv_at hl 1 rfl) ?_
            refine j7_ialdM hx hb hK hh_6 hB154 1 rfl (by decide) hg_zc (x := a1.toInt) (rfl) (by omega) (j := 4) rfl dX13_meantTerm_91 (fun z_28 ez_28 (hz_28 : True) => ?_)
            have hqz_28 : z_28.toInt = jSo C.c (a1.toInt) := by unfold jSo; rw [ez_28]
            refine lv_if_le (tgt := 100) hx hb dX13_meantTerm_92 (by decide) (fun c_29 => ?_) (fun c_29 => ?_)
            · skip
              have c_29' : z_28.toInt ≤ 0 := jb_le (rfl) ((by decide)) c_29
              refine lv_aload_n hx hb dX13_meantTerm_100 rfl (lv_at hl 0 rfl) ?_
              refine lv_bipush (v := 9) hx hb dX13_meantTerm_101 (by decide) ?_
              refine lv_iload_n hx hb dX13_meantTerm_103 rfl (lv_at hl 2 rfl) ?_
              refine lv_iconst (v := 0) hx hb dX13_meantTerm_104 (by decide) ?_
              refine lv_iconst (v := 0) hx hb dX13_meantTerm_105 (by decide) ?_
              refine lv_iconst (v := 0) hx hb dX13_meantTerm_106 (by decide) ?_
              refine va_calli (A0 := jA base) (H0 := s.heap) (va_runV (As := [.int 9, .int z_2, .int 0, .int 0, .int 0]) (rest := []) ⟨hx, hb, hml, hown, hts⟩ (uX13_nodeK l dC dI ca base B hB hAp hB15 hB150 hB151 hB152 hB153 hB154 hB165 G0 H_6 r0 9 z_2 0 0 0 pn zs zn za zb zc zy C) (cwV 5 hts (jgV (jWr_62 _ (List.mem_of_getElem? (i := 9) rfl)) (jWr_62 _ (List.mem_of_getElem? (i := 10) rfl)) (jWr_62 _ (List.mem_of_getElem? (i := 11) rfl)) (jWr_12 _ (List.mem_of_getElem? (i := 12) rfl)) (jWr_62 _ (List.mem_of_getElem? (i := 12) rfl))) rfl rfl rfl (by decide +kernel) ⟨by rw [← hR]; show (0) + 1 ≤ 2 * d + 4; omega, by rw [← hR]; show 8 + (6 + 11) + (0) ≤ 60 * d + 200; omega⟩) ⟨fun a U g mk q => by obtain ⟨q0, q1, q2, qK, q10, q11, q12, q13, q14, q15, q16, q17, q18, q19⟩ := q; exact ⟨q0, q1, q2, jG.calling g mk a qK, q10, q11, q12, q13, q14, q15, q16, q17, q18, q19⟩, hh_6.recv (C := RX13) (T := TX13) (N := 50) hB15 rfl (by decide) hg_r0 hK, fun U hU hW => ⟨rfl, hU, hh_6.2.1, hG.step hW hU hh_6.1, hg_r0, hg_zs, hg_zn, hg_za, hg_zb, hg_zc, hg_zy, (hh_6.2.2.1.sub (L1 := [(r0, 15, 5, .int pn), (r0, 15, 0, .ref zs), (r0, 15, 1, .ref zn), (r0, 15, 2, .ref za), (r0, 15, 3, .ref zb), (r0, 15, 4, .ref zc), (r0, 15, 14, .ref zy)]) [0, 4, 5, 6, 7, 8, 9] rfl), (hh_6.2.2.2.2.2.2.2.1.sub (L1 := [(zs, 150, 120000, ca 1, C.s), (zn, 151, 120000, ca 1, C.n), (za, 152, 120000, ca 1, C.a), (zb, 153, 120000, ca 1, C.b), (zc, 154, 120000, ca 1, C.c), (zy, 165, 16, ca 1, C.y)]) [0, 1, 2, 3, 4, 5] rfl), by first | omega | (refine ⟨?_, ?_⟩ <;> (first | omega | rfl | assumption | decide | exact Or.inl rfl | exact Or.inr rfl | (simp only; omega)))⟩⟩ rfl rfl hl.1 rfl (lv_room (Nat.le_of_ble_eq_true rfl)) dX13_meantTerm_107 ⟨Nat.zero_le _, Nat.zero_le _⟩) hh_6.1 (fun q _ h => h) (fun q h => h) (fun r_31 u_30 t_30 H_30 locs_30 ht_30 hvm_30 hr_31 hb_30 hz_30 hk_30 hS_30 => ?_)
              obtain ⟨qn_30, D_30⟩ := u_30
              rw [ht_30] at hb_30
              obtain ⟨⟨hb_301, hb_302, hb_303, hb_304, hb_305⟩, hb_306⟩ := hb_30
              have hh_30 : jSt (dC, dI) B base G0 G0 EX13_meantTerm s.heap 0 0 [(r0, 15, 5, .int qn_30), (r0, 15, 34, .int pu), (r0, 15, 11, .int py), (r0, 15, 36, .int pb), (r0, 15, 0, .ref zs), (r0, 15, 1, .ref zn), (r0, 15, 2, .ref za), (r0, 15, 3, .ref zb), (r0, 15, 4, .ref zc), (r0, 15, 14, .ref zy)] [(zs, 150, 120000, ca 1, D_30.s), (zn, 151, 120000, ca 1, D_30.n), (za, 152, 120000, ca 1, D_30.a), (zb, 153, 120000, ca 1, D_30.b), (zc, 154, 120000, ca 1, D_30.c), (zy, 165, 16, ca 1, D_30.y), (zy, 165, 16, ca 1, C.y)] [] H_30 locs_30 := ((hh_6.call hb_301 hb_302 hb_303 hb_304 hS_30 rfl (L1 := [(r0, 15, 34, .int pu), (r0, 15, 11, .int py), (r0, 15, 36, .int pb), (r0, 15, 0, .ref zs), (r0, 15, 1, .ref zn), (r0, 15, 2, .ref za), (r0, 15, 3, .ref zb), (r0, 15, 4, .ref zc), (r0, 15, 14, .ref zy)]) [1, 2, 3, 4, 5, 6, 7, 8, 9] rfl rfl (M1 := [(zy, 165, 16, ca 1, C.y)]) [5] rfl rfl (I1 := []) [] rfl rfl).more hb_305).moreM hb_306
              clear hh_6 ht_30 hvm_30 hz_30 hk_30 hS_30 hb_301 hb_302 hb_303 hb_304 hb_305
              clear hb_306
              try simp only at hr_31
              obtain ⟨hr_31_0, hr_31_1, hr_31_2⟩ := hr_31
              rw [hQ]
              exact W.iret (v := r_31) hx hb hr (fun t ht hW => ⟨⟨r_31, (qn_30, pu, D_30), rfl, by (try dsimp only); refine ⟨by omega, by omega, by omega, by omega, hr_31_2.1, fun h9 => ?_⟩; have k := jMk0 (e := d) (b := pb.toInt) (Y := py.toInt) hr_31_2 (by omega) (by omega) (by omega); rw [hr_31_0, hr_31_1]; exact ⟨k.1, by omega⟩, ⟨hh_30.rt (M1 := [(r0, 15, 5, .int qn_30), (r0, 15, 34, .int pu)]) [0, 1] rfl ht, by rw [ht]; exact hh_30.2.2.2.2.2.2.2.1.sub [0, 1, 2, 3, 4, 5] rfl⟩⟩, by rw [ht]; try exact hh_30.1.1, fun q h9 hq => by rw [ht]; try exact hh_30.1.2.1 q h9 hq⟩) hh_30.1.2.2 dX13_meantTerm_110
            · skip
              have c_29' : z_28.toInt > 0 := jb_le_n (rfl) ((by decide)) c_29
              refine lv_aload_n hx hb dX13_meantTerm_95 rfl (lv_at hl 0 rfl) ?_
              refine lv_iconst (v := 5) hx hb dX13_meantTerm_96 (by decide) ?_
              refine va_callv (A0 := jA base) (H0 := s.heap) (va_runV (As := [.int 5]) (rest := []) ⟨hx, hb, hml, hown, hts⟩ (uX13_failsK l dC dI ca base B hB hAp hB15 G0 H_6 r0 5 pu) (cwV 1 hts (jgV (jWr_64 _ (List.mem_of_getElem? (i := 19) rfl)) (jWr_64 _ (List.mem_of_getElem? (i := 20) rfl)) (jWr_64 _ (List.mem_of_getElem? (i := 21) rfl)) (jWr_12 _ (List.mem_of_getElem? (i := 12) rfl)) (jWr_64 _ (List.mem_of_getElem? (i := 22) rfl))) rfl rfl rfl (by decide +kernel) ⟨by rw [← hR]; show (0) + 1 ≤ 2 * d + 4; omega, by rw [← hR]; show 8 + (2 + 11) + (0) ≤ 60 * d + 200; omega⟩) ⟨fun a U g mk q => by obtain ⟨q0, q1, q2, qK, q10, q11, q12⟩ := q; exact ⟨q0, q1, q2, jG.calling g mk a qK, q10, q11, q12⟩, hh_6.recv (C := RX13) (T := TX13) (N := 50) hB15 rfl (by decide) hg_r0 hK, fun U hU hW => ⟨rfl, hU, hh_6.2.1, hG.step hW hU hh_6.1, hg_r0, (hh_6.2.2.1.sub (L1 := [(r0, 15, 34, .int pu)]) [1] rfl), by first | omega | (refine ⟨?_, ?_, ?_, ?_⟩ <;> (first | omega | rfl | assumption | decide | exact Or.inl rfl | exact Or.inr rfl | (simp only; omega)))⟩⟩ rfl rfl hl.1 rfl (lv_room (Nat.le_of_ble_eq_true rfl)) dX13_meantTerm_97 ⟨Nat.zero_le _, Nat.zero_le _⟩) hh_6.1 (fun q _ h => h) (fun q h => h) (fun u_32 t_32 H_32 locs_32 ht_32 hvm_32 hr_33 hb_32 hz_32 hk_32 hS_32 => ?_)
              obtain ⟨qu_32, rfl⟩ : ∃ z, z = u_32 := ⟨_, rfl⟩
              rw [ht_32] at hb_32
              obtain ⟨hb_321, hb_322, hb_323, hb_324, hb_325⟩ := hb_32
              have hh_32 : jSt (dC, dI) B base G0 G0 EX13_meantTerm s.heap 0 0 [(r0, 15, 34, .int qu_32), (r0, 15, 5, .int pn), (r0, 15, 11, .int py), (r0, 15, 36, .int pb), (r0, 15, 0, .ref zs), (r0, 15, 1, .ref zn), (r0, 15, 2, .ref za), (r0, 15, 3, .ref zb), (r0, 15, 4, .ref zc), (r0, 15, 14, .ref zy)] [(zs, 150, 120000, ca 1, C.s), (zn, 151, 120000, ca 1, C.n), (za, 152, 120000, ca 1, C.a), (zb, 153, 120000, ca 1, C.b), (zc, 154, 120000, ca 1, C.c), (zy, 165, 16, ca 1, C.y)] [] H_32 locs_32 := ((hh_6.call hb_321 hb_322 hb_323 hb_324 hS_32 rfl (L1 := [(r0, 15, 5, .int pn), (r0, 15, 11, .int py), (r0, 15, 36, .int pb), (r0, 15, 0, .ref zs), (r0, 15, 1, .ref zn), (r0, 15, 2, .ref za), (r0, 15, 3, .ref zb), (r0, 15, 4, .ref zc), (r0, 15, 14, .ref zy)]) [0, 2, 3, 4, 5, 6, 7, 8, 9] rfl rfl (M1 := [(zs, 150, 120000, ca 1, C.s), (zn, 151, 120000, ca 1, C.n), (za, 152, 120000, ca 1, C.a), (zb, 153, 120000, ca 1, C.b), (zc, 154, 120000, ca 1, C.c), (zy, 165, 16, ca 1, C.y)]) [0, 1, 2, 3, 4, 5] rfl rfl (I1 := []) [] rfl rfl).more hb_325)
              clear hh_6 ht_32 hvm_32 hz_32 hk_32 hS_32 hb_321 hb_322 hb_323 hb_324 hb_325
              obtain ⟨hr_33_0, hr_33_1, hr_33_2, hr_33_3⟩ := hr_33
              refine lv_aload_n hx hb dX13_meantTerm_100 rfl (lv_at hl 0 rfl) ?_
              refine lv_bipush (v := 9) hx hb dX13_meantTerm_101 (by decide) ?_
              refine lv_iload_n hx hb dX13_meantTerm_103 rfl (lv_at hl 2 rfl) ?_
              refine lv_iconst (v := 0) hx hb dX13_meantTerm_104 (by decide) ?_
              refine lv_iconst (v := 0) hx hb dX13_meantTerm_105 (by decide) ?_
              refine lv_iconst (v := 0) hx hb dX13_meantTerm_106 (by decide) ?_
              refine va_calli (A0 := jA base) (H0 := s.heap) (va_runV (As := [.int 9, .int z_2, .int 0, .int 0, .int 0]) (rest := []) ⟨hx, hb, hml, hown, hts⟩ (uX13_nodeK l dC dI ca base B hB hAp hB15 hB150 hB151 hB152 hB153 hB154 hB165 G0 H_32 r0 9 z_2 0 0 0 pn zs zn za zb zc zy C) (cwV 5 hts (jgV (jWr_62 _ (List.mem_of_getElem? (i := 9) rfl)) (jWr_62 _ (List.mem_of_getElem? (i := 10) rfl)) (jWr_62 _ (List.mem_of_getElem? (i := 11) rfl)) (jWr_12 _ (List.mem_of_getElem? (i := 12) rfl)) (jWr_62 _ (List.mem_of_getElem? (i := 12) rfl))) rfl rfl rfl (by decide +kernel) ⟨by rw [← hR]; show (0) + 1 ≤ 2 * d + 4; omega, by rw [← hR]; show 8 + (6 + 11) + (0) ≤ 60 * d + 200; omega⟩) ⟨fun a U g mk q => by obtain ⟨q0, q1, q2, qK, q10, q11, q12, q13, q14, q15, q16, q17, q18, q19⟩ := q; exact ⟨q0, q1, q2, jG.calling g mk a qK, q10, q11, q12, q13, q14, q15, q16, q17, q18, q19⟩, hh_32.recv (C := RX13) (T := TX13) (N := 50) hB15 rfl (by decide) hg_r0 hK, fun U hU hW => ⟨rfl, hU, hh_32.2.1, hG.step hW hU hh_32.1, hg_r0, hg_zs, hg_zn, hg_za, hg_zb, hg_zc, hg_zy, (hh_32.2.2.1.sub (L1 := [(r0, 15, 5, .int pn), (r0, 15, 0, .ref zs), (r0, 15, 1, .ref zn), (r0, 15, 2, .ref za), (r0, 15, 3, .ref zb), (r0, 15, 4, .ref zc), (r0, 15, 14, .ref zy)]) [1, 4, 5, 6, 7, 8, 9] rfl), (hh_32.2.2.2.2.2.2.2.1.sub (L1 := [(zs, 150, 120000, ca 1, C.s), (zn, 151, 120000, ca 1, C.n), (za, 152, 120000, ca 1, C.a), (zb, 153, 120000, ca 1, C.b), (zc, 154, 120000, ca 1, C.c), (zy, 165, 16, ca 1, C.y)]) [0, 1, 2, 3, 4, 5] rfl), by first | omega | (refine ⟨?_, ?_⟩ <;> (first | omega | rfl | assumption | decide | exact Or.inl rfl | exact Or.inr rfl | (simp only; omega)))⟩⟩ rfl rfl hl.1 rfl (lv_room (Nat.le_of_ble_eq_true rfl)) dX13_meantTerm_107 ⟨Nat.zero_le _, Nat.zero_le _⟩) hh_32.1 (fun q _ h => h) (fun q h => h) (fun r_35 u_34 t_34 H_34 locs_34 ht_34 hvm_34 hr_35 hb_34 hz_34 hk_34 hS_34 => ?_)
              obtain ⟨qn_34, D_34⟩ := u_34
              rw [ht_34] at hb_34
              obtain ⟨⟨hb_341, hb_342, hb_343, hb_344, hb_345⟩, hb_346⟩ := hb_34
              have hh_34 : jSt (dC, dI) B base G0 G0 EX13_meantTerm s.heap 0 0 [(r0, 15, 5, .int qn_34), (r0, 15, 34, .int qu_32), (r0, 15, 11, .int py), (r0, 15, 36, .int pb), (r0, 15, 0, .ref zs), (r0, 15, 1, .ref zn), (r0, 15, 2, .ref za), (r0, 15, 3, .ref zb), (r0, 15, 4, .ref zc), (r0, 15, 14, .ref zy)] [(zs, 150, 120000, ca 1, D_34.s), (zn, 151, 120000, ca 1, D_34.n), (za, 152, 120000, ca 1, D_34.a), (zb, 153, 120000, ca 1, D_34.b), (zc, 154, 120000, ca 1, D_34.c), (zy, 165, 16, ca 1, D_34.y), (zy, 165, 16, ca 1, C.y)] [] H_34 locs_34 := ((hh_32.call hb_341 hb_342 hb_343 hb_344 hS_34 rfl (L1 := [(r0, 15, 34, .int qu_32), (r0, 15, 11, .int py), (r0, 15, 36, .int pb), (r0, 15, 0, .ref zs), (r0, 15, 1, .ref zn), (r0, 15, 2, .ref za), (r0, 15, 3, .ref zb), (r0, 15, 4, .ref zc), (r0, 15, 14, .ref zy)]) [0, 2, 3, 4, 5, 6, 7, 8, 9] rfl rfl (M1 := [(zy, 165, 16, ca 1, C.y)]) [5] rfl rfl (I1 := []) [] rfl rfl).more hb_345).moreM hb_346
              clear hh_32 ht_34 hvm_34 hz_34 hk_34 hS_34 hb_341 hb_342 hb_343 hb_344 hb_345
              clear hb_346
              try simp only at hr_35
              obtain ⟨hr_35_0, hr_35_1, hr_35_2⟩ := hr_35
              rw [hQ]
              exact W.iret (v := r_35) hx hb hr (fun t ht hW => ⟨⟨r_35, (qn_34, qu_32, D_34), rfl, by (try dsimp only); refine ⟨by omega, by omega, by omega, by omega, hr_35_2.1, fun h9 => ?_⟩; have k := jMk0 (e := d) (b := pb.toInt) (Y := py.toInt) hr_35_2 (by omega) (by omega) (by omega); rw [hr_35_0, hr_35_1]; exact ⟨k.1, by omega⟩, ⟨hh_34.rt (M1 := [(r0, 15, 5, .int qn_34), (r0, 15, 34, .int qu_32)]) [0, 1] rfl ht, by rw [ht]; exact hh_34.2.2.2.2.2.2.2.1.sub [0, 1, 2, 3, 4, 5] rfl⟩⟩, by rw [ht]; try exact hh_34.1.1, fun q h9 hq => by rw [ht]; try exact hh_34.1.2.1 q h9 hq⟩) hh_34.1.2.2 dX13_meantTerm_110
        · skip
          have c_5' : v3_4.toInt ≥ 0 := jb_lt_n (rfl) ((by decide)) c_5
          refine lv_aload_n hx hb dX13_meantTerm_27 rfl (lv_at hl 0 rfl) ?_
          obtain ⟨v_36, hv_36, hh_37⟩ := hh_4.pin (C := RX13) (T := TX13) (N := 50) hB15 rfl (by decide) hg_r0 (i := 35) (by decide) rfl
          clear hh_4
          obtain ⟨binder_38, rfl, hg_binder_38⟩ := hv_36
          refine j7_read hx hb hown hK (C := RX13) (T := TX13) (N := 50) rfl hly_15_35 hlk_77 (hh_37.at 0 rfl) dX13_meantTerm_28 ?_
          refine lv_iload_n hx hb dX13_meantTerm_31 rfl (lv_at hl 3 rfl) ?_
          refine j7_iald hx hb hK hh_37 hB163 1 rfl (by decide) hg_binder_38 (x := v3_4.toInt) (rfl) (by omega) dX13_meantTerm_32 (fun z_39 (hz_39 : 0 ≤ z_39.toInt ∧ z_39.toInt ≤ 1599) => ?_)
          refine lv_iload_n hx hb dX13_meantTerm_33 rfl (lv_at hl 2 rfl) ?_
          refine lv_icmp_eq (tgt := 40) hx hb dX13_meantTerm_34 (by decide) (fun c_40 => ?_) (fun c_40 => ?_)
          · skip
            have c_40' : z_39.toInt = z_2.toInt := jb_eq (rfl) (rfl) c_40
            refine lv_aload_n hx hb dX13_meantTerm_40 rfl (lv_at hl 0 rfl) ?_
            refine j7_read hx hb hown hK (C := RX13) (T := TX13) (N := 50) rfl hly_15_4 hlk_25 (hh_37.at 9 rfl) dX13_meantTerm_41 ?_
            refine lv_iload_n hx hb dX13_meantTerm_44 rfl (lv_at hl 1 rfl) ?_
            refine j7_ialdM hx hb hK hh_37 hB154 1 rfl (by decide) hg_zc (x := a1.toInt) (rfl) (by omega) (j := 4) rfl dX13_meantTerm_45 (fun z_41 ez_41 (hz_41 : True) => ?_)
            have hqz_41 : z_41.toInt = jSo C.c (a1.toInt) := by unfold jSo; rw [ez_41]
            refine lv_if_le (tgt := 54) hx hb dX13_meantTerm_46 (by decide) (fun c_42 => ?_) (fun c_42 => ?_)
            · skip
              have c_42' : z_41.toInt ≤ 0 := jb_le (rfl) ((by decide)) c_42
              refine lv_aload_n hx hb dX13_meantTerm_54 rfl (lv_at hl 0 rfl) ?_
              refine lv_bipush (v := 10) hx hb dX13_meantTerm_55 (by decide) ?_
              refine lv_aload_n hx hb dX13_meantTerm_57 rfl (lv_at hl 0 rfl) ?_
              refine j7_read hx hb hown hK (C := RX13) (T := TX13) (N := 50) rfl hly_15_36 hlk_242 (hh_37.at 4 rfl) dX13_meantTerm_58 ?_
              refine lv_iconst (v := 1) hx hb dX13_meantTerm_61 (by decide) ?_
              refine lv_isub hx hb dX13_meantTerm_62 ?_
              refine lv_topi (fun z_43 ez_43 => ?_)
              have hz_43 : z_43.toInt = pb.toInt - 1 := by rw [ez_43]; exact jb_isub2 (rfl) ((by decide)) (by omega)
              refine lv_iload_n hx hb dX13_meantTerm_63 rfl (lv_at hl 3 rfl) ?_
              refine lv_isub hx hb dX13_meantTerm_64 ?_
              refine lv_topi (fun z_44 ez_44 => ?_)
              have hz_44 : z_44.toInt = z_43.toInt - v3_4.toInt := by rw [ez_44]; exact jb_isub2 (rfl) (rfl) (by omega)
              refine lv_iconst (v := 0) hx hb dX13_meantTerm_65 (by decide) ?_
              refine lv_iconst (v := 0) hx hb dX13_meantTerm_66 (by decide) ?_
              refine lv_iconst (v := 0) hx hb dX13_meantTerm_67 (by decide) ?_
              refine va_calli (A0 := jA base) (H0 := s.heap) (va_runV (As := [.int 10, .int z_44, .int 0, .int 0, .int 0]) (rest := []) ⟨hx, hb, hml, hown, hts⟩ (uX13_nodeK l dC dI ca base B hB hAp hB15 hB150 hB151 hB152 hB153 hB154 hB165 G0 H_4 r0 10 z_44 0 0 0 pn zs zn za zb zc zy C) (cwV 5 hts (jgV (jWr_62 _ (List.mem_of_getElem? (i := 9) rfl)) (jWr_62 _ (List.mem_of_getElem? (i := 10) rfl)) (jWr_62 _ (List.mem_of_getElem? (i := 11) rfl)) (jWr_12 _ (List.mem_of_getElem? (i := 12) rfl)) (jWr_62 _ (List.mem_of_getElem? (i := 12) rfl))) rfl rfl rfl (by decide +kernel) ⟨by rw [← hR]; show (0) + 1 ≤ 2 * d + 4; omega, by rw [← hR]; show 8 + (6 + 11) + (0) ≤ 60 * d + 200; omega⟩) ⟨fun a U g mk q => by obtain ⟨q0, q1, q2, qK, q10, q11, q12, q13, q14, q15, q16, q17, q18, q19⟩ := q; exact ⟨q0, q1, q2, jG.calling g mk a qK, q10, q11, q12, q13, q14, q15, q16, q17, q18, q19⟩, hh_37.recv (C := RX13) (T := TX13) (N := 50) hB15 rfl (by decide) hg_r0 hK, fun U hU hW => ⟨rfl, hU, hh_37.2.1, hG.step hW hU hh_37.1, hg_r0, hg_zs, hg_zn, hg_za, hg_zb, hg_zc, hg_zy, (hh_37.2.2.1.sub (L1 := [(r0, 15, 5, .int pn), (r0, 15, 0, .ref zs), (r0, 15, 1, .ref zn), (r0, 15, 2, .ref za), (r0, 15, 3, .ref zb), (r0, 15, 4, .ref zc), (r0, 15, 14, .ref zy)]) [1, 5, 6, 7, 8, 9, 10] rfl), (hh_37.2.2.2.2.2.2.2.1.sub (L1 := [(zs, 150, 120000, ca 1, C.s), (zn, 151, 120000, ca 1, C.n), (za, 152, 120000, ca 1, C.a), (zb, 153, 120000, ca 1, C.b), (zc, 154, 120000, ca 1, C.c), (zy, 165, 16, ca 1, C.y)]) [0, 1, 2, 3, 4, 5] rfl), by first | omega | (refine ⟨?_, ?_⟩ <;> (first | omega | rfl | assumption | decide | exact Or.inl rfl | exact Or.inr rfl | (simp only; omega)))⟩⟩ rfl rfl hl.1 rfl (lv_room (Nat.le_of_ble_eq_true rfl)) dX13_meantTerm_68 ⟨Nat.zero_le _, Nat.zero_le _⟩) hh_37.1 (fun q _ h => h) (fun q h => h) (fun r_46 u_45 t_45 H_45 locs_45 ht_45 hvm_45 hr_46 hb_45 hz_45 hk_45 hS_45 => ?_)
              obtain ⟨qn_45, D_45⟩ := u_45
              rw [ht_45] at hb_45
              obtain ⟨⟨hb_451, hb_452, hb_453, hb_454, hb_455⟩, hb_456⟩ := hb_45
              have hh_45 : jSt (dC, dI) B base G0 G0 EX13_meantTerm s.heap 0 0 [(r0, 15, 5, .int qn_45), (r0, 15, 35, .ref binder_38), (r0, 15, 34, .int pu), (r0, 15, 11, .int py), (r0, 15, 36, .int pb), (r0, 15, 0, .ref zs), (r0, 15, 1, .ref zn), (r0, 15, 2, .ref za), (r0, 15, 3, .ref zb), (r0, 15, 4, .ref zc), (r0, 15, 14, .ref zy)] [(zs, 150, 120000, ca 1, D_45.s), (zn, 151, 120000, ca 1, D_45.n), (za, 152, 120000, ca 1, D_45.a), (zb, 153, 120000, ca 1, D_45.b), (zc, 154, 120000, ca 1, D_45.c), (zy, 165, 16, ca 1, D_45.y), (zy, 165, 16, ca 1, C.y)] [] H_45 locs_45 := ((hh_37.call hb_451 hb_452 hb_453 hb_454 hS_45 rfl (L1 := [(r0, 15, 35, .ref binder_38), (r0, 15, 34, .int pu), (r0, 15, 11, .int py), (r0, 15, 36, .int pb), (r0, 15, 0, .ref zs), (r0, 15, 1, .ref zn), (r0, 15, 2, .ref za), (r0, 15, 3, .ref zb), (r0, 15, 4, .ref zc), (r0, 15, 14, .ref zy)]) [0, 2, 3, 4, 5, 6, 7, 8, 9, 10] rfl rfl (M1 := [(zy, 165, 16, ca 1, C.y)]) [5] rfl rfl (I1 := []) [] rfl rfl).more hb_455).moreM hb_456
              clear hh_37 ht_45 hvm_45 hz_45 hk_45 hS_45 hb_451 hb_452 hb_453 hb_454 hb_455
              clear hb_456
              try simp only at hr_46
              obtain ⟨hr_46_0, hr_46_1, hr_46_2⟩ := hr_46
              rw [hQ]
              exact W.iret (v := r_46) hx hb hr (fun t ht hW => ⟨⟨r_46, (qn_45, pu, D_45), rfl, by (try dsimp only); refine ⟨by omega, by omega, by omega, by omega, hr_46_2.1, fun h9 => ?_⟩; have k := jMk0 (e := d) (b := pb.toInt) (Y := py.toInt) hr_46_2 (by omega) (by omega) (by omega); rw [hr_46_0, hr_46_1]; exact ⟨k.1, by omega⟩, ⟨hh_45.rt (M1 := [(r0, 15, 5, .int qn_45), (r0, 15, 34, .int pu)]) [0, 2] rfl ht, by rw [ht]; exact hh_45.2.2.2.2.2.2.2.1.sub [0, 1, 2, 3, 4, 5] rfl⟩⟩, by rw [ht]; try exact hh_45.1.1, fun q h9 hq => by rw [ht]; try exact hh_45.1.2.1 q h9 hq⟩) hh_45.1.2.2 dX13_meantTerm_71
            · skip
              have c_42' : z_41.toInt > 0 := jb_le_n (rfl) ((by decide)) c_42
              refine lv_aload_n hx hb dX13_meantTerm_49 rfl (lv_at hl 0 rfl) ?_
              refine lv_iconst (v := 5) hx hb dX13_meantTerm_50 (by decide) ?_
              refine va_callv (A0 := jA base) (H0 := s.heap) (va_runV (As := [.int 5]) (rest := []) ⟨hx, hb, hml, hown, hts⟩ (uX13_failsK l dC dI ca base B hB hAp hB15 G0 H_4 r0 5 pu) (cwV 1 hts (jgV (jWr_64 _ (List.mem_of_getElem? (i := 19) rfl)) (jWr_64 _ (List.mem_of_getElem? (i := 20) rfl)) (jWr_64 _ (List.mem_of_getElem? (i := 21) rfl)) (jWr_12 _ (List.mem_of_getElem? (i := 12) rfl)) (jWr_64 _ (List.mem_of_getElem? (i := 22) rfl))) rfl rfl rfl (by decide +kernel) ⟨by rw [← hR]; show (0) + 1 ≤ 2 * d + 4; omega, by rw [← hR]; show 8 + (2 + 11) + (0) ≤ 60 * d + 200; omega⟩) ⟨fun a U g mk q => by obtain ⟨q0, q1, q2, qK, q10, q11, q12⟩ := q; exact ⟨q0, q1, q2, jG.calling g mk a qK, q10, q11, q12⟩, hh_37.recv (C := RX13) (T := TX13) (N := 50) hB15 rfl (by decide) hg_r0 hK, fun U hU hW => ⟨rfl, hU, hh_37.2.1, hG.step hW hU hh_37.1, hg_r0, (hh_37.2.2.1.sub (L1 := [(r0, 15, 34, .int pu)]) [2] rfl), by first | omega | (refine ⟨?_, ?_, ?_, ?_⟩ <;> (first | omega | rfl | assumption | decide | exact Or.inl rfl | exact Or.inr rfl | (simp only; omega)))⟩⟩ rfl rfl hl.1 rfl (lv_room (Nat.le_of_ble_eq_true rfl)) dX13_meantTerm_51 ⟨Nat.zero_le _, Nat.zero_le _⟩) hh_37.1 (fun q _ h => h) (fun q h => h) (fun u_47 t_47 H_47 locs_47 ht_47 hvm_47 hr_48 hb_47 hz_47 hk_47 hS_47 => ?_)
              obtain ⟨qu_47, rfl⟩ : ∃ z, z = u_47 := ⟨_, rfl⟩
              rw [ht_47] at hb_47
              obtain ⟨hb_471, hb_472, hb_473, hb_474, hb_475⟩ := hb_47
              have hh_47 : jSt (dC, dI) B base G0 G0 EX13_meantTerm s.heap 0 0 [(r0, 15, 34, .int qu_47), (r0, 15, 35, .ref binder_38), (r0, 15, 5, .int pn), (r0, 15, 11, .int py), (r0, 15, 36, .int pb), (r0, 15, 0, .ref zs), (r0, 15, 1, .ref zn), (r0, 15, 2, .ref za), (r0, 15, 3, .ref zb), (r0, 15, 4, .ref zc), (r0, 15, 14, .ref zy)] [(zs, 150, 120000, ca 1, C.s), (zn, 151, 120000, ca 1, C.n), (za, 152, 120000, ca 1, C.a), (zb, 153, 120000, ca 1, C.b), (zc, 154, 120000, ca 1, C.c), (zy, 165, 16, ca 1, C.y)] [] H_47 locs_47 := ((hh_37.call hb_471 hb_472 hb_473 hb_474 hS_47 rfl (L1 := [(r0, 15, 35, .ref binder_38), (r0, 15, 5, .int pn), (r0, 15, 11, .int py), (r0, 15, 36, .int pb), (r0, 15, 0, .ref zs), (r0, 15, 1, .ref zn), (r0, 15, 2, .ref za), (r0, 15, 3, .ref zb), (r0, 15, 4, .ref zc), (r0, 15, 14, .ref zy)]) [0, 1, 3, 4, 5, 6, 7, 8, 9, 10] rfl rfl (M1 := [(zs, 150, 120000, ca 1, C.s), (zn, 151, 120000, ca 1, C.n), (za, 152, 120000, ca 1, C.a), (zb, 153, 120000, ca 1, C.b), (zc, 154, 120000, ca 1, C.c), (zy, 165, 16, ca 1, C.y)]) [0, 1, 2, 3, 4, 5] rfl rfl (I1 := []) [] rfl rfl).more hb_475)
              clear hh_37 ht_47 hvm_47 hz_47 hk_47 hS_47 hb_471 hb_472 hb_473 hb_474 hb_475
              obtain ⟨hr_48_0, hr_48_1, hr_48_2, hr_48_3⟩ := hr_48
              refine lv_aload_n hx hb dX13_meantTerm_54 rfl (lv_at hl 0 rfl) ?_
              refine lv_bipush (v := 10) hx hb dX13_meantTerm_55 (by decide) ?_
              refine lv_aload_n hx hb dX13_meantTerm_57 rfl (lv_at hl 0 rfl) ?_
              refine j7_read hx hb hown hK (C := RX13) (T := TX13) (N := 50) rfl hly_15_36 hlk_242 (hh_47.at 4 rfl) dX13_meantTerm_58 ?_
              refine lv_iconst (v := 1) hx hb dX13_meantTerm_61 (by decide) ?_
              refine lv_isub hx hb dX13_meantTerm_62 ?_
              refine lv_topi (fun z_49 ez_49 => ?_)
              have hz_49 : z_49.toInt = pb.toInt - 1 := by rw [ez_49]; exact jb_isub2 (rfl) ((by decide)) (by omega)
              refine lv_iload_n hx hb dX13_meantTerm_63 rfl (lv_at hl 3 rfl) ?_
              refine lv_isub hx hb dX13_meantTerm_64 ?_
              refine lv_topi (fun z_50 ez_50 => ?_)
              have hz_50 : z_50.toInt = z_49.toInt - v3_4.toInt := by rw [ez_50]; exact jb_isub2 (rfl) (rfl) (by omega)
              refine lv_iconst (v := 0) hx hb dX13_meantTerm_65 (by decide) ?_
              refine lv_iconst (v := 0) hx hb dX13_meantTerm_66 (by decide) ?_
              refine lv_iconst (v := 0) hx hb dX13_meantTerm_67 (by decide) ?_
              refine va_calli (A0 := jA base) (H0 := s.heap) (va_runV (As := [.int 10, .int z_50, .int 0, .int 0, .int 0]) (rest := []) ⟨hx, hb, hml, hown, hts⟩ (uX13_nodeK l dC dI ca base B hB hAp hB15 hB150 hB151 hB152 hB153 hB154 hB165 G0 H_47 r0 10 z_50 0 0 0 pn zs zn za zb zc zy C) (cwV 5 hts (jgV (jWr_62 _ (List.mem_of_getElem? (i := 9) rfl)) (jWr_62 _ (List.mem_of_getElem? (i := 10) rfl)) (jWr_62 _ (List.mem_of_getElem? (i := 11) rfl)) (jWr_12 _ (List.mem_of_getElem? (i := 12) rfl)) (jWr_62 _ (List.mem_of_getElem? (i := 12) rfl))) rfl rfl rfl (by decide +kernel) ⟨by rw [← hR]; show (0) + 1 ≤ 2 * d + 4; omega, by rw [← hR]; show 8 + (6 + 11) + (0) ≤ 60 * d + 200; omega⟩) ⟨fun a U g mk q => by obtain ⟨q0, q1, q2, qK, q10, q11, q12, q13, q14, q15, q16, q17, q18, q19⟩ := q; exact ⟨q0, q1, q2, jG.calling g mk a qK, q10, q11, q12, q13, q14, q15, q16, q17, q18, q19⟩, hh_47.recv (C := RX13) (T := TX13) (N := 50) hB15 rfl (by decide) hg_r0 hK, fun U hU hW => ⟨rfl, hU, hh_47.2.1, hG.step hW hU hh_47.1, hg_r0, hg_zs, hg_zn, hg_za, hg_zb, hg_zc, hg_zy, (hh_47.2.2.1.sub (L1 := [(r0, 15, 5, .int pn), (r0, 15, 0, .ref zs), (r0, 15, 1, .ref zn), (r0, 15, 2, .ref za), (r0, 15, 3, .ref zb), (r0, 15, 4, .ref zc), (r0, 15, 14, .ref zy)]) [2, 5, 6, 7, 8, 9, 10] rfl), (hh_47.2.2.2.2.2.2.2.1.sub (L1 := [(zs, 150, 120000, ca 1, C.s), (zn, 151, 120000, ca 1, C.n), (za, 152, 120000, ca 1, C.a), (zb, 153, 120000, ca 1, C.b), (zc, 154, 120000, ca 1, C.c), (zy, 165, 16, ca 1, C.y)]) [0, 1, 2, 3, 4, 5] rfl), by first | omega | (refine ⟨?_, ?_⟩ <;> (first | omega | rfl | assumption | decide | exact Or.inl rfl | exact Or.inr rfl | (simp only; omega)))⟩⟩ rfl rfl hl.1 rfl (lv_room (Nat.le_of_ble_eq_true rfl)) dX13_meantTerm_68 ⟨Nat.zero_le _, Nat.zero_le _⟩) hh_47.1 (fun q _ h => h) (fun q h => h) (fun r_52 u_51 t_51 H_51 locs_51 ht_51 hvm_51 hr_52 hb_51 hz_51 hk_51 hS_51 => ?_)
              obtain ⟨qn_51, D_51⟩ := u_51
              rw [ht_51] at hb_51
              obtain ⟨⟨hb_511, hb_512, hb_513, hb_514, hb_515⟩, hb_516⟩ := hb_51
              have hh_51 : jSt (dC, dI) B base G0 G0 EX13_meantTerm s.heap 0 0 [(r0, 15, 5, .int qn_51), (r0, 15, 34, .int qu_47), (r0, 15, 35, .ref binder_38), (r0, 15, 11, .int py), (r0, 15, 36, .int pb), (r0, 15, 0, .ref zs), (r0, 15, 1, .ref zn), (r0, 15, 2, .ref za), (r0, 15, 3, .ref zb), (r0, 15, 4, .ref zc), (r0, 15, 14, .ref zy)] [(zs, 150, 120000, ca 1, D_51.s), (zn, 151, 120000, ca 1, D_51.n), (za, 152, 120000, ca 1, D_51.a), (zb, 153, 120000, ca 1, D_51.b), (zc, 154, 120000, ca 1, D_51.c), (zy, 165, 16, ca 1, D_51.y), (zy, 165, 16, ca 1, C.y)] [] H_51 locs_51 := ((hh_47.call hb_511 hb_512 hb_513 hb_514 hS_51 rfl (L1 := [(r0, 15, 34, .int qu_47), (r0, 15, 35, .ref binder_38), (r0, 15, 11, .int py), (r0, 15, 36, .int pb), (r0, 15, 0, .ref zs), (r0, 15, 1, .ref zn), (r0, 15, 2, .ref za), (r0, 15, 3, .ref zb), (r0, 15, 4, .ref zc), (r0, 15, 14, .ref zy)]) [0, 1, 3, 4, 5, 6, 7, 8, 9, 10] rfl rfl (M1 := [(zy, 165, 16, ca 1, C.y)]) [5] rfl rfl (I1 := []) [] rfl rfl).more hb_515).moreM hb_516
              clear hh_47 ht_51 hvm_51 hz_51 hk_51 hS_51 hb_511 hb_512 hb_513 hb_514 hb_515
              clear hb_516
              try simp only at hr_52
              obtain ⟨hr_52_0, hr_52_1, hr_52_2⟩ := hr_52
              rw [hQ]
              exact W.iret (v := r_52) hx hb hr (fun t ht hW => ⟨⟨r_52, (qn_51, qu_47, D_51), rfl, by (try dsimp only); refine ⟨by omega, by omega, by omega, by omega, hr_52_2.1, fun h9 => ?_⟩; have k := jMk0 (e := d) (b := pb.toInt) (Y := py.toInt) hr_52_2 (by omega) (by omega) (by omega); rw [hr_52_0, hr_52_1]; exact ⟨k.1, by omega⟩, ⟨hh_51.rt (M1 := [(r0, 15, 5, .int qn_51), (r0, 15, 34, .int qu_47)]) [0, 1] rfl ht, by rw [ht]; exact hh_51.2.2.2.2.2.2.2.1.sub [0, 1, 2, 3, 4, 5] rfl⟩⟩, by rw [ht]; try exact hh_51.1.1, fun q h9 hq => by rw [ht]; try exact hh_51.1.2.1 q h9 hq⟩) hh_51.1.2.2 dX13_meantTerm_71
          · skip
            have c_40' : z_39.toInt ≠ z_2.toInt := jb_eq_n (rfl) (rfl) c_40
            refine lv_goto (tgt := 72) hx hb dX13_meantTerm_37 (by decide) ?_
            obtain ⟨z_53, ez_53⟩ : ∃ y : Int32, y = v3_4 + (-1) := ⟨_, rfl⟩
            refine lv_iinc (v := z_53) (lv' := [(3, .int z_53), (0, .ref r0), (1, .int a1), (2, .int z_2)]) hx hb dX13_meantTerm_72 hl (k := 3) rfl (by rw [ez_53]; rfl) (by decide) rfl (fun ls hl => ?_)
            have hz_53 : z_53.toInt = v3_4.toInt + (-1) := by rw [ez_53]; exact jb_iadd2 (rfl) (by decide) (by omega)
            refine lv_goto (tgt := 23) hx hb dX13_meantTerm_75 (by decide) ?_
            exact L23 z_53 _ _ (hh_37.sub (L1 := [(r0, 15, 5, .int pn), (r0, 15, 34, .int pu), (r0, 15, 11, .int py), (r0, 15, 36, .int pb), (r0, 15, 0, .ref zs), (r0, 15, 1, .ref zn), (r0, 15, 2, .ref za), (r0, 15, 3, .ref zb), (r0, 15, 4, .ref zc), (r0, 15, 14, .ref zy)]) [1, 2, 3, 4, 5, 6, 7, 8, 9, 10] rfl (M1 := [(zs, 150, 120000, ca 1, C.s), (zn, 151, 120000, ca 1, C.n), (za, 152, 120000, ca 1, C.a), (zb, 153, 120000, ca 1, C.b), (zc, 154, 120000, ca 1, C.c), (zy, 165, 16, ca 1, C.y)]) [0, 1, 2, 3, 4, 5] rfl (I1 := []) [] rfl) (by first | omega | (refine ⟨?_, ?_⟩ <;> (first | omega | rfl | assumption | decide | exact Or.inl rfl | exact Or.inr rfl | (simp only; omega)))) (by omega) _ (lv_sub hl [1, 2, 3, 0] rfl)
    exact L23 ((z_3 : Int32).toInt + 1 : Int).toNat.succ z_3 _ _ hh (by first | omega | (refine ⟨?_, ?_⟩ <;> (first | omega | rfl | assumption | decide | exact Or.inl rfl | exact Or.inr rfl | (simp only; omega)))) (by omega) _ (lv_sub hl [2, 3, 1, 0] rfl)
  · skip
    have c_1' : pu.toInt > 0 := jb_le_n (rfl) ((by decide)) c_1
    refine lv_iconst (v := 0) hx hb dX13_meantTerm_7 (by decide) ?_
    rw [hQ]
    exact W.iret (v := 0) hx hb hr (fun t ht hW => ⟨⟨0, (pn, pu, C), rfl, by (try dsimp only); refine ⟨by omega, by omega, by omega, by omega, jAgK.rf _ _, fun h9 => absurd h9 (by omega)⟩, ⟨hh.rt (M1 := [(r0, 15, 5, .int pn), (r0, 15, 34, .int pu)]) [0, 1] rfl ht, by rw [ht]; exact hh.2.2.2.2.2.2.2.1.sub [0, 1, 2, 3, 4, 5] rfl⟩⟩, by rw [ht]; try exact hh.1.1, fun q h9 hq => by rw [ht]; try exact hh.1.2.1 q h9 hq⟩) hh.1.2.2 dX13_meantTerm_8
theorem aX13_meantTermW (l : Launch) (dC : Nat → ClassId) (dI : Nat → Nat → Nat) (ca : Nat → ClassId) (base : Nat) (B : jF) (hB : jBok B) (hAp : jAp (dC, dI)) (hB15 : ∀ n G a H, B 15 n G a H ↔ jOb (dC, dI) 15 50 (F15 n G) a H) (hB103 : ∀ n G a H, B 103 n G a H ↔ jAr (dC, dI) (ca 3) (fun j z => (z = 0 ∨ z = 1)) n a H) (hB150 : ∀ n G a H, B 150 n G a H ↔ jAr (dC, dI) (ca 1) (fun j z => True) n a H) (hB151 : ∀ n G a H, B 151 n G a H ↔ jAr (dC, dI) (ca 1) (fun j z => True) n a H) (hB152 : ∀ n G a H, B 152 n G a H ↔ jAr (dC, dI) (ca 1) (fun j z => True) n a H) (hB153 : ∀ n G a H, B 153 n G a H ↔ jAr (dC, dI) (ca 1) (fun j z => True) n a H) (hB154 : ∀ n G a H, B 154 n G a H ↔ jAr (dC, dI) (ca 1) (fun j z => True) n a H) (hB158 : ∀ n G a H, B 158 n G a H ↔ jAr (dC, dI) (ca 1) (fun j z => 0 ≤ z.toInt ∧ z.toInt ≤ 6) n a H) (hB163 : ∀ n G a H, B 163 n G a H ↔ jAr (dC, dI) (ca 1) (fun j z => 0 ≤ z.toInt ∧ z.toInt ≤ 1599) n a H) (hB165 : ∀ n G a H, B 165 n G a H ↔ jAr (dC, dI) (ca 1) (fun j z => 0 ≤ z.toInt ∧ z.toInt ≤ 3) n a H) : ∀ d, qX13_withParts l dC dI ca base B d ∧ qX13_meantTerm l dC dI ca base B d := fun d => Nat.strongRecOn d (fun d ih => by
  have h1 : qX13_withParts l dC dI ca base B d := fun G0 H0 r0 a1 a2 a3 pn pu py pb zs zn za zb zc zy hi C => uX13_withParts l dC dI ca base B hB hAp hB15 hB103 hB150 hB151 hB152 hB153 hB154 hB158 hB163 hB165 d (fun e1 h => (ih e1 h).2) G0 H0 r0 a1 a2 a3 pn pu py pb zs zn za zb zc zy hi C
  exact ⟨h1, fun G0 H0 r0 a1 pn pu py pb zs zn za zb zc zy hi C => uX13_meantTerm l dC dI ca base B hB hAp hB15 hB103 hB150 hB151 hB152 hB153 hB154 hB158 hB163 hB165 d h1 G0 H0 r0 a1 pn pu py pb zs zn za zb zc zy hi C⟩)
end
