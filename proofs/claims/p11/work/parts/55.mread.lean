theorem dX14_escape_0 : decode cX14_escape 0 = .ok (.aload_n 0, 1) := by decide +kernel
theorem dX14_escape_1 : decode cX14_escape 1 = .ok (.invokevirtual 279, 3) := by decide +kernel
theorem dX14_escape_4 : decode cX14_escape 4 = .ok (.istore_n 1, 1) := by decide +kernel
theorem dX14_escape_5 : decode cX14_escape 5 = .ok (.aload_n 0, 1) := by decide +kernel
theorem dX14_escape_6 : decode cX14_escape 6 = .ok (.dup, 1) := by decide +kernel
theorem dX14_escape_7 : decode cX14_escape 7 = .ok (.getfield 273, 3) := by decide +kernel
theorem dX14_escape_10 : decode cX14_escape 10 = .ok (.iconst 1, 1) := by decide +kernel
theorem dX14_escape_11 : decode cX14_escape 11 = .ok (.iadd, 1) := by decide +kernel
theorem dX14_escape_12 : decode cX14_escape 12 = .ok (.putfield 273, 3) := by decide +kernel
theorem dX14_escape_15 : decode cX14_escape 15 = .ok (.ldc_w 337, 3) := by decide +kernel
theorem dX14_escape_18 : decode cX14_escape 18 = .ok (.astore_n 2, 1) := by decide +kernel
theorem dX14_escape_19 : decode cX14_escape 19 = .ok (.iload_n 1, 1) := by decide +kernel
theorem dX14_escape_20 : decode cX14_escape 20 = .ok (.ifCond .ge 7, 3) := by decide +kernel
theorem dX14_escape_23 : decode cX14_escape 23 = .ok (.iconst (-1), 1) := by decide +kernel
theorem dX14_escape_24 : decode cX14_escape 24 = .ok (.goto 8, 3) := by decide +kernel
theorem dX14_escape_27 : decode cX14_escape 27 = .ok (.aload_n 2, 1) := by decide +kernel
theorem dX14_escape_28 : decode cX14_escape 28 = .ok (.iload_n 1, 1) := by decide +kernel
theorem dX14_escape_29 : decode cX14_escape 29 = .ok (.invokevirtual 339, 3) := by decide +kernel
theorem dX14_escape_32 : decode cX14_escape 32 = .ok (.istore_n 3, 1) := by decide +kernel
theorem dX14_escape_33 : decode cX14_escape 33 = .ok (.iload_n 3, 1) := by decide +kernel
theorem dX14_escape_34 : decode cX14_escape 34 = .ok (.ifCond .lt 63, 3) := by decide +kernel
theorem dX14_escape_37 : decode cX14_escape 37 = .ok (.aload_n 0, 1) := by decide +kernel
theorem dX14_escape_38 : decode cX14_escape 38 = .ok (.iload_n 3, 1) := by decide +kernel
theorem dX14_escape_39 : decode cX14_escape 39 = .ok (.iconst 3, 1) := by decide +kernel
theorem dX14_escape_40 : decode cX14_escape 40 = .ok (.if_icmp .ge 7, 3) := by decide +kernel
theorem dX14_escape_43 : decode cX14_escape 43 = .ok (.iload_n 1, 1) := by decide +kernel
theorem dX14_escape_44 : decode cX14_escape 44 = .ok (.goto 49, 3) := by decide +kernel
theorem dX14_escape_47 : decode cX14_escape 47 = .ok (.iload_n 1, 1) := by decide +kernel
theorem dX14_escape_48 : decode cX14_escape 48 = .ok (.bipush 98, 2) := by decide +kernel
theorem dX14_escape_50 : decode cX14_escape 50 = .ok (.if_icmp .ne 8, 3) := by decide +kernel
theorem dX14_escape_53 : decode cX14_escape 53 = .ok (.bipush 8, 2) := by decide +kernel
theorem dX14_escape_55 : decode cX14_escape 55 = .ok (.goto 38, 3) := by decide +kernel
theorem dX14_escape_58 : decode cX14_escape 58 = .ok (.iload_n 1, 1) := by decide +kernel
theorem dX14_escape_59 : decode cX14_escape 59 = .ok (.bipush 102, 2) := by decide +kernel
theorem dX14_escape_61 : decode cX14_escape 61 = .ok (.if_icmp .ne 8, 3) := by decide +kernel
theorem dX14_escape_64 : decode cX14_escape 64 = .ok (.bipush 12, 2) := by decide +kernel
theorem dX14_escape_66 : decode cX14_escape 66 = .ok (.goto 27, 3) := by decide +kernel
theorem dX14_escape_69 : decode cX14_escape 69 = .ok (.iload_n 1, 1) := by decide +kernel
theorem dX14_escape_70 : decode cX14_escape 70 = .ok (.bipush 110, 2) := by decide +kernel
theorem dX14_escape_72 : decode cX14_escape 72 = .ok (.if_icmp .ne 8, 3) := by decide +kernel
theorem dX14_escape_75 : decode cX14_escape 75 = .ok (.bipush 10, 2) := by decide +kernel
theorem dX14_escape_77 : decode cX14_escape 77 = .ok (.goto 16, 3) := by decide +kernel
theorem dX14_escape_80 : decode cX14_escape 80 = .ok (.iload_n 1, 1) := by decide +kernel
theorem dX14_escape_81 : decode cX14_escape 81 = .ok (.bipush 114, 2) := by decide +kernel
theorem dX14_escape_83 : decode cX14_escape 83 = .ok (.if_icmp .ne 8, 3) := by decide +kernel
theorem dX14_escape_86 : decode cX14_escape 86 = .ok (.bipush 13, 2) := by decide +kernel
theorem dX14_escape_88 : decode cX14_escape 88 = .ok (.goto 5, 3) := by decide +kernel
theorem dX14_escape_91 : decode cX14_escape 91 = .ok (.bipush 9, 2) := by decide +kernel
theorem dX14_escape_93 : decode cX14_escape 93 = .ok (.invokevirtual 342, 3) := by decide +kernel
theorem dX14_escape_96 : decode cX14_escape 96 = .ok (.return_, 1) := by decide +kernel
theorem dX14_escape_97 : decode cX14_escape 97 = .ok (.iload_n 1, 1) := by decide +kernel
theorem dX14_escape_98 : decode cX14_escape 98 = .ok (.bipush 117, 2) := by decide +kernel
theorem dX14_escape_100 : decode cX14_escape 100 = .ok (.if_icmp .ne 10, 3) := by decide +kernel
theorem dX14_escape_103 : decode cX14_escape 103 = .ok (.aload_n 0, 1) := by decide +kernel
theorem dX14_escape_104 : decode cX14_escape 104 = .ok (.invokevirtual 345, 3) := by decide +kernel
theorem dX14_escape_107 : decode cX14_escape 107 = .ok (.goto 4, 3) := by decide +kernel
theorem dX14_escape_110 : decode cX14_escape 110 = .ok (.iconst (-1), 1) := by decide +kernel
theorem dX14_escape_111 : decode cX14_escape 111 = .ok (.istore 4, 2) := by decide +kernel
theorem dX14_escape_113 : decode cX14_escape 113 = .ok (.iload 4, 2) := by decide +kernel
theorem dX14_escape_115 : decode cX14_escape 115 = .ok (.ifCond .lt 15, 3) := by decide +kernel
theorem dX14_escape_118 : decode cX14_escape 118 = .ok (.iload 4, 2) := by decide +kernel
theorem dX14_escape_120 : decode cX14_escape 120 = .ok (.ldc 185, 2) := by decide +kernel
theorem dX14_escape_122 : decode cX14_escape 122 = .ok (.ldc 186, 2) := by decide +kernel
theorem dX14_escape_124 : decode cX14_escape 124 = .ok (.invokestatic 181, 3) := by decide +kernel
theorem dX14_escape_127 : decode cX14_escape 127 = .ok (.ifCond .eq 9, 3) := by decide +kernel
theorem dX14_escape_130 : decode cX14_escape 130 = .ok (.aload_n 0, 1) := by decide +kernel
theorem dX14_escape_131 : decode cX14_escape 131 = .ok (.iconst 1, 1) := by decide +kernel
theorem dX14_escape_132 : decode cX14_escape 132 = .ok (.putfield 288, 3) := by decide +kernel
theorem dX14_escape_135 : decode cX14_escape 135 = .ok (.return_, 1) := by decide +kernel
theorem dX14_escape_136 : decode cX14_escape 136 = .ok (.iload 4, 2) := by decide +kernel
theorem dX14_escape_138 : decode cX14_escape 138 = .ok (.ldc 179, 2) := by decide +kernel
theorem dX14_escape_140 : decode cX14_escape 140 = .ok (.ldc 180, 2) := by decide +kernel
theorem dX14_escape_142 : decode cX14_escape 142 = .ok (.invokestatic 181, 3) := by decide +kernel
theorem dX14_escape_145 : decode cX14_escape 145 = .ok (.ifCond .ne 10, 3) := by decide +kernel
theorem dX14_escape_148 : decode cX14_escape 148 = .ok (.aload_n 0, 1) := by decide +kernel
theorem dX14_escape_149 : decode cX14_escape 149 = .ok (.iload 4, 2) := by decide +kernel
theorem dX14_escape_151 : decode cX14_escape 151 = .ok (.invokevirtual 342, 3) := by decide +kernel
theorem dX14_escape_154 : decode cX14_escape 154 = .ok (.return_, 1) := by decide +kernel
theorem dX14_escape_155 : decode cX14_escape 155 = .ok (.aload_n 0, 1) := by decide +kernel
theorem dX14_escape_156 : decode cX14_escape 156 = .ok (.ldc_w 348, 3) := by decide +kernel
theorem dX14_escape_159 : decode cX14_escape 159 = .ok (.invokevirtual 309, 3) := by decide +kernel
theorem dX14_escape_162 : decode cX14_escape 162 = .ok (.ifCond .eq 10, 3) := by decide +kernel
theorem dX14_escape_165 : decode cX14_escape 165 = .ok (.aload_n 0, 1) := by decide +kernel
theorem dX14_escape_166 : decode cX14_escape 166 = .ok (.invokevirtual 345, 3) := by decide +kernel
theorem dX14_escape_169 : decode cX14_escape 169 = .ok (.goto 4, 3) := by decide +kernel
theorem dX14_escape_172 : decode cX14_escape 172 = .ok (.iconst (-1), 1) := by decide +kernel
theorem dX14_escape_173 : decode cX14_escape 173 = .ok (.istore 5, 2) := by decide +kernel
theorem dX14_escape_175 : decode cX14_escape 175 = .ok (.iload 5, 2) := by decide +kernel
theorem dX14_escape_177 : decode cX14_escape 177 = .ok (.ldc 185, 2) := by decide +kernel
theorem dX14_escape_179 : decode cX14_escape 179 = .ok (.ldc 186, 2) := by decide +kernel
theorem dX14_escape_181 : decode cX14_escape 181 = .ok (.invokestatic 181, 3) := by decide +kernel
theorem dX14_escape_184 : decode cX14_escape 184 = .ok (.ifCond .ne 9, 3) := by decide +kernel
theorem dX14_escape_187 : decode cX14_escape 187 = .ok (.aload_n 0, 1) := by decide +kernel
theorem dX14_escape_188 : decode cX14_escape 188 = .ok (.iconst 1, 1) := by decide +kernel
theorem dX14_escape_189 : decode cX14_escape 189 = .ok (.putfield 288, 3) := by decide +kernel
theorem dX14_escape_192 : decode cX14_escape 192 = .ok (.return_, 1) := by decide +kernel
theorem dX14_escape_193 : decode cX14_escape 193 = .ok (.aload_n 0, 1) := by decide +kernel
theorem dX14_escape_194 : decode cX14_escape 194 = .ok (.iload 4, 2) := by decide +kernel
theorem dX14_escape_196 : decode cX14_escape 196 = .ok (.invokevirtual 342, 3) := by decide +kernel
theorem dX14_escape_199 : decode cX14_escape 199 = .ok (.aload_n 0, 1) := by decide +kernel
theorem dX14_escape_200 : decode cX14_escape 200 = .ok (.iload 5, 2) := by decide +kernel
theorem dX14_escape_202 : decode cX14_escape 202 = .ok (.invokevirtual 342, 3) := by decide +kernel
theorem dX14_escape_205 : decode cX14_escape 205 = .ok (.return_, 1) := by decide +kernel
theorem dX14_readString_0 : decode cX14_readString 0 = .ok (.aload_n 0, 1) := by decide +kernel
theorem dX14_readString_1 : decode cX14_readString 1 = .ok (.dup, 1) := by decide +kernel
theorem dX14_readString_2 : decode cX14_readString 2 = .ok (.getfield 273, 3) := by decide +kernel
theorem dX14_readString_5 : decode cX14_readString 5 = .ok (.iconst 1, 1) := by decide +kernel
theorem dX14_readString_6 : decode cX14_readString 6 = .ok (.iadd, 1) := by decide +kernel
theorem dX14_readString_7 : decode cX14_readString 7 = .ok (.putfield 273, 3) := by decide +kernel
theorem dX14_readString_10 : decode cX14_readString 10 = .ok (.aload_n 0, 1) := by decide +kernel
theorem dX14_readString_11 : decode cX14_readString 11 = .ok (.getfield 304, 3) := by decide +kernel
theorem dX14_readString_14 : decode cX14_readString 14 = .ok (.istore_n 1, 1) := by decide +kernel
theorem dX14_readString_15 : decode cX14_readString 15 = .ok (.aload_n 0, 1) := by decide +kernel
theorem dX14_readString_16 : decode cX14_readString 16 = .ok (.getfield 288, 3) := by decide +kernel
theorem dX14_readString_19 : decode cX14_readString 19 = .ok (.ifCond .ne 104, 3) := by decide +kernel
theorem dX14_readString_22 : decode cX14_readString 22 = .ok (.aload_n 0, 1) := by decide +kernel
theorem dX14_readString_23 : decode cX14_readString 23 = .ok (.invokevirtual 279, 3) := by decide +kernel
theorem dX14_readString_26 : decode cX14_readString 26 = .ok (.bipush 34, 2) := by decide +kernel
theorem dX14_readString_28 : decode cX14_readString 28 = .ok (.if_icmp .eq 95, 3) := by decide +kernel
theorem dX14_readString_31 : decode cX14_readString 31 = .ok (.aload_n 0, 1) := by decide +kernel
theorem dX14_readString_32 : decode cX14_readString 32 = .ok (.invokevirtual 279, 3) := by decide +kernel
theorem dX14_readString_35 : decode cX14_readString 35 = .ok (.istore_n 2, 1) := by decide +kernel
theorem dX14_readString_36 : decode cX14_readString 36 = .ok (.iload_n 2, 1) := by decide +kernel
theorem dX14_readString_37 : decode cX14_readString 37 = .ok (.bipush 32, 2) := by decide +kernel
theorem dX14_readString_39 : decode cX14_readString 39 = .ok (.if_icmp .ge 11, 3) := by decide +kernel
theorem dX14_readString_42 : decode cX14_readString 42 = .ok (.aload_n 0, 1) := by decide +kernel
theorem dX14_readString_43 : decode cX14_readString 43 = .ok (.iconst 1, 1) := by decide +kernel
theorem dX14_readString_44 : decode cX14_readString 44 = .ok (.putfield 288, 3) := by decide +kernel
theorem dX14_readString_47 : decode cX14_readString 47 = .ok (.goto 73, 3) := by decide +kernel
theorem dX14_readString_50 : decode cX14_readString 50 = .ok (.iload_n 2, 1) := by decide +kernel
theorem dX14_readString_51 : decode cX14_readString 51 = .ok (.bipush 92, 2) := by decide +kernel
theorem dX14_readString_53 : decode cX14_readString 53 = .ok (.if_icmp .ne 20, 3) := by decide +kernel
theorem dX14_readString_56 : decode cX14_readString 56 = .ok (.aload_n 0, 1) := by decide +kernel
theorem dX14_readString_57 : decode cX14_readString 57 = .ok (.dup, 1) := by decide +kernel
theorem dX14_readString_58 : decode cX14_readString 58 = .ok (.getfield 273, 3) := by decide +kernel
theorem dX14_readString_61 : decode cX14_readString 61 = .ok (.iconst 1, 1) := by decide +kernel
theorem dX14_readString_62 : decode cX14_readString 62 = .ok (.iadd, 1) := by decide +kernel
theorem dX14_readString_63 : decode cX14_readString 63 = .ok (.putfield 273, 3) := by decide +kernel
theorem dX14_readString_66 : decode cX14_readString 66 = .ok (.aload_n 0, 1) := by decide +kernel
theorem dX14_readString_67 : decode cX14_readString 67 = .ok (.invokevirtual 350, 3) := by decide +kernel
theorem dX14_readString_70 : decode cX14_readString 70 = .ok (.goto 50, 3) := by decide +kernel
theorem dX14_readString_73 : decode cX14_readString 73 = .ok (.aload_n 0, 1) := by decide +kernel
theorem dX14_readString_74 : decode cX14_readString 74 = .ok (.aload_n 0, 1) := by decide +kernel
theorem dX14_readString_75 : decode cX14_readString 75 = .ok (.getfield 20, 3) := by decide +kernel
theorem dX14_readString_78 : decode cX14_readString 78 = .ok (.aload_n 0, 1) := by decide +kernel
theorem dX14_readString_79 : decode cX14_readString 79 = .ok (.getfield 273, 3) := by decide +kernel
theorem dX14_readString_82 : decode cX14_readString 82 = .ok (.aload_n 0, 1) := by decide +kernel
theorem dX14_readString_83 : decode cX14_readString 83 = .ok (.getfield 276, 3) := by decide +kernel
theorem dX14_readString_86 : decode cX14_readString 86 = .ok (.invokevirtual 353, 3) := by decide +kernel
theorem dX14_readString_89 : decode cX14_readString 89 = .ok (.istore_n 3, 1) := by decide +kernel
theorem dX14_readString_90 : decode cX14_readString 90 = .ok (.iload_n 3, 1) := by decide +kernel
theorem dX14_readString_91 : decode cX14_readString 91 = .ok (.ifCond .ne 11, 3) := by decide +kernel
theorem dX14_readString_94 : decode cX14_readString 94 = .ok (.aload_n 0, 1) := by decide +kernel
theorem dX14_readString_95 : decode cX14_readString 95 = .ok (.iconst 1, 1) := by decide +kernel
theorem dX14_readString_96 : decode cX14_readString 96 = .ok (.putfield 288, 3) := by decide +kernel
theorem dX14_readString_99 : decode cX14_readString 99 = .ok (.goto 11, 3) := by decide +kernel
theorem dX14_readString_102 : decode cX14_readString 102 = .ok (.aload_n 0, 1) := by decide +kernel
theorem dX14_readString_103 : decode cX14_readString 103 = .ok (.aload_n 0, 1) := by decide +kernel
theorem dX14_readString_104 : decode cX14_readString 104 = .ok (.getfield 357, 3) := by decide +kernel
theorem dX14_readString_107 : decode cX14_readString 107 = .ok (.invokevirtual 342, 3) := by decide +kernel
theorem dX14_readString_110 : decode cX14_readString 110 = .ok (.aload_n 0, 1) := by decide +kernel
theorem dX14_readString_111 : decode cX14_readString 111 = .ok (.dup, 1) := by decide +kernel
theorem dX14_readString_112 : decode cX14_readString 112 = .ok (.getfield 273, 3) := by decide +kernel
theorem dX14_readString_115 : decode cX14_readString 115 = .ok (.iload_n 3, 1) := by decide +kernel
theorem dX14_readString_116 : decode cX14_readString 116 = .ok (.iadd, 1) := by decide +kernel
theorem dX14_readString_117 : decode cX14_readString 117 = .ok (.putfield 273, 3) := by decide +kernel
theorem dX14_readString_120 : decode cX14_readString 120 = .ok (.goto (-105), 3) := by decide +kernel
theorem dX14_readString_123 : decode cX14_readString 123 = .ok (.aload_n 0, 1) := by decide +kernel
theorem dX14_readString_124 : decode cX14_readString 124 = .ok (.dup, 1) := by decide +kernel
theorem dX14_readString_125 : decode cX14_readString 125 = .ok (.getfield 273, 3) := by decide +kernel
theorem dX14_readString_128 : decode cX14_readString 128 = .ok (.iconst 1, 1) := by decide +kernel
theorem dX14_readString_129 : decode cX14_readString 129 = .ok (.iadd, 1) := by decide +kernel
theorem dX14_readString_130 : decode cX14_readString 130 = .ok (.putfield 273, 3) := by decide +kernel
theorem dX14_readString_133 : decode cX14_readString 133 = .ok (.aload_n 0, 1) := by decide +kernel
theorem dX14_readString_134 : decode cX14_readString 134 = .ok (.iload_n 1, 1) := by decide +kernel
theorem dX14_readString_135 : decode cX14_readString 135 = .ok (.putfield 301, 3) := by decide +kernel
theorem dX14_readString_138 : decode cX14_readString 138 = .ok (.return_, 1) := by decide +kernel
def EX14_escape : List (Nat × Nat) := [(16, 28), (16, 29), (16, 31), (127, 0)]
def EX14_readString : List (Nat × Nat) := [(16, 28), (16, 29), (16, 31), (16, 32), (16, 33), (127, 0)]
set_option maxHeartbeats 4000000 in
set_option maxRecDepth 20000 in
theorem uX14_escape (l : Launch) (dC : Nat → ClassId) (dI : Nat → Nat → Nat) (ca : Nat → ClassId) (base : Nat) (B : jF) (hB : jBok B) (hAp : jAp (dC, dI)) (hB16 : ∀ n G a H, B 16 n G a H ↔ jOb (dC, dI) 16 74 (F16 n G) a H) (hB110 : ∀ n G a H, B 110 n G a H ↔ jAr (dC, dI) (ca 1) (fun j z => 0 ≤ z.toInt ∧ z.toInt ≤ 255) n a H) (hB127 : ∀ n G a H, B 127 n G a H ↔ jAr (dC, dI) (ca 1) (fun j z => True) n a H) (G0 : jT) (H0 : Heap) (r0 : Nat) (pt : Int32) (pe : Int32) (pp : Int32) (pb : Int32) : Met l yX14_escape (jw yX14_escape cX14_escape 6 none) ({ frames := 5, cells := 0, slots := 0, locals := 181 }) (va_Pc [.ref r0] (fun U => U.heap = H0 ∧ jX B base G0 [] H0 ∧ jG dC dI ca base U ∧ G0 r0 = some (16, 0) ∧ jP (dC, dI) G0 H0 [(r0, 16, 29, .int pt), (r0, 16, 30, .int pe), (r0, 16, 28, .int pp), (r0, 16, 31, .int pb)] ∧ 0 ≤ pt.toInt ∧ pt.toInt ≤ 90000 ∧ 0 ≤ pe.toInt ∧ pe.toInt ≤ 3000 ∧ pt.toInt ≤ pe.toInt ∧ 0 ≤ pp.toInt ∧ pp.toInt ≤ 3290 ∧ pb.toInt = 0)) (va_Qv (S := Int32 × Int32 × Int32) (fun u => 0 ≤ u.2.2.toInt ∧ u.2.2.toInt ≤ 1 ∧ pt.toInt + 1 ≤ u.1.toInt + u.2.2.toInt ∧ pt.toInt ≤ u.1.toInt ∧ u.1.toInt ≤ pe.toInt + u.2.2.toInt ∧ pp.toInt ≤ u.2.1.toInt ∧ u.2.1.toInt ≤ pp.toInt + (u.1.toInt - pt.toInt) + u.2.2.toInt) (fun u t => jRt (dC, dI) B base G0 EX14_escape H0 [(r0, 16, 29, .int u.1), (r0, 16, 28, .int u.2.1), (r0, 16, 31, .int u.2.2)] t.heap) (jA base)) 0 0 (jA base) := by
  refine Met.ofW (cc := cX14_escape) (maxL := 6) (ret := none) (by decide) rfl ?_
  intro p e s m args below meth c s₁ Bd hml hv
  obtain ⟨rfl, hH0, hX, hG, hg_r0, hP0, hp0, hp1, hp2, hp3, hp4, hp5, hp6, hp7⟩ := hv
  have hK := hG.1
  have hx := Bd.exec
  have hb := Bd.bytes
  have hr := Bd.returns
  have hts := atoms_spec (ws := (jw yX14_escape cX14_escape 6 none)) Bd.pre
  have htw : ∀ w ∈ jWl, w.before _ s = true := fun w h => hts w (List.mem_cons_of_mem _ h)
  have hown : s.vm.findClass RX14 = some m.cls := findClass_of_methodNamed Bd.named
  have hlocks := Bd.notSynchronized
  obtain ⟨Q, hQ⟩ : ∃ Q, Q = MQ below (va_Qv (S := Int32 × Int32 × Int32) (fun u => 0 ≤ u.2.2.toInt ∧ u.2.2.toInt ≤ 1 ∧ pt.toInt + 1 ≤ u.1.toInt + u.2.2.toInt ∧ pt.toInt ≤ u.1.toInt ∧ u.1.toInt ≤ pe.toInt + u.2.2.toInt ∧ pp.toInt ≤ u.2.1.toInt ∧ u.2.1.toInt ≤ pp.toInt + (u.1.toInt - pt.toInt) + u.2.2.toInt) (fun u t => jRt (dC, dI) B base G0 EX14_escape H0 [(r0, 16, 29, .int u.1), (r0, 16, 28, .int u.2.1), (r0, 16, 31, .int u.2.2)] t.heap) (jA base)) ([.ref r0] : List Value).toArray s 0 0 (jA base) := ⟨_, rfl⟩
  rw [← hQ]
  have hl := lv_entry ([.ref r0]) (n := 6) (Nat.le_of_ble_eq_true rfl)
  rw [lg_entry_eq]
  generalize (lg_sl ([.ref r0]) ++ List.replicate (6 - (lg_sl ([.ref r0])).length) Slot.unset).toArray = ls at hl ⊢
  have hl : lv_has ls 6 [(0, .ref r0)] := hl
  generalize hR : (headSpec (jw yX14_escape cX14_escape 6 none) ({ frames := 5, cells := 0, slots := 0, locals := 181 })).room = R
  subst hH0
  have hh : jSt (dC, dI) B base G0 G0 EX14_escape s.heap 0 0 [(r0, 16, 29, .int pt), (r0, 16, 30, .int pe), (r0, 16, 28, .int pp), (r0, 16, 31, .int pb)] [] [] s.heap [] := jSt.start hX hP0 jMc.nil jIs.nil
  clear hX hP0
  have hkm1 : ((-1) : Int32).toInt = (-1) := by decide
  have hk0 : (0 : Int32).toInt = 0 := by decide
  have hk1 : (1 : Int32).toInt = 1 := by decide
  have hk3 : (3 : Int32).toInt = 3 := by decide
  have hk8 : (8 : Int32).toInt = 8 := by decide
  have hk9 : (9 : Int32).toInt = 9 := by decide
  have hk10 : (10 : Int32).toInt = 10 := by decide
  have hk12 : (12 : Int32).toInt = 12 := by decide
  have hk13 : (13 : Int32).toInt = 13 := by decide
  have hk98 : (98 : Int32).toInt = 98 := by decide
  have hk102 : (102 : Int32).toInt = 102 := by decide
  have hk110 : (110 : Int32).toInt = 110 := by decide
  have hk114 : (114 : Int32).toInt = 114 := by decide
  have hk117 : (117 : Int32).toInt = 117 := by decide
  have hk55296 : (55296 : Int32).toInt = 55296 := by decide
  have hk56319 : (56319 : Int32).toInt = 56319 := by decide
  have hk56320 : (56320 : Int32).toInt = 56320 := by decide
  have hk57343 : (57343 : Int32).toInt = 57343 := by decide
  have hly_16_29 := htw (u_lay RX14 TX14 29) (jWc_wsX140 _ (u_in_lay (by decide)))
  have hly_16_31 := htw (u_lay RX14 TX14 31) (jWc_wsX140 _ (u_in_lay (by decide)))
  have hlk_273 := (htw (.fieldLink RX14 273 "ProofServerModel" "at" "I") (jWr_50 _ (List.mem_of_getElem? (i := 5) rfl)))
  obtain ⟨str337, rstr337, hstr3370⟩ := hG.str (o := RX14) (k := 337) (tx := "\"\\/bfnrt") (List.mem_of_getElem? (i := 2337) (by decide +kernel))
  have hstr337 : jStr base str337 8 s s.heap := hstr3370
  have hcs_185 := htw (.constant RX14 185 56320) (jWr_51 _ (List.mem_of_getElem? (i := 16) rfl))
  have hcs_186 := htw (.constant RX14 186 57343) (jWr_51 _ (List.mem_of_getElem? (i := 17) rfl))
  have hlk_288 := (htw (.fieldLink RX14 288 "ProofServerModel" "bad" "Z") (jWr_50 _ (List.mem_of_getElem? (i := 9) rfl)))
  have hcs_179 := htw (.constant RX14 179 55296) (jWr_51 _ (List.mem_of_getElem? (i := 18) rfl))
  have hcs_180 := htw (.constant RX14 180 56319) (jWr_51 _ (List.mem_of_getElem? (i := 19) rfl))
  obtain ⟨str348, rstr348, hstr3480⟩ := hG.str (o := RX14) (k := 348) (tx := "\\u") (List.mem_of_getElem? (i := 2356) (by decide +kernel))
  have hstr348 : jStr base str348 2 s s.heap := hstr3480
  refine lv_aload_n hx hb dX14_escape_0 rfl (lv_at hl 0 rfl) ?_
  refine va_calli (A0 := jA base) (H0 := s.heap) (va_runV (As := []) (rest := []) ⟨hx, hb, hml, hown, hts⟩ (uX14_here l dC dI ca base B hB hAp hB16 hB110 G0 s.heap r0 pt pe) (cwV 0 hts (jgV (jWr_50 _ (List.mem_of_getElem? (i := 20) rfl)) (jWr_50 _ (List.mem_of_getElem? (i := 21) rfl)) (jWr_50 _ (List.mem_of_getElem? (i := 22) rfl)) (jWr_1 _ (List.mem_of_getElem? (i := 5) rfl)) (jWr_50 _ (List.mem_of_getElem? (i := 23) rfl))) rfl rfl rfl (by decide +kernel) ⟨by rw [← hR]; exact Nat.le_of_ble_eq_true rfl, by rw [← hR]; exact Nat.le_of_ble_eq_true rfl⟩) ⟨fun a U g mk q => by obtain ⟨q0, q1, q2, qK, q10, q11, q12⟩ := q; exact ⟨q0, q1, q2, jG.calling g mk a qK, q10, q11, q12⟩, hh.recv (C := RX14) (T := TX14) (N := 74) hB16 rfl (by decide) hg_r0 hK, fun U hU hW => ⟨rfl, hU, hh.2.1, hG.step hW hU hh.1, hg_r0, (hh.2.2.1.sub (L1 := [(r0, 16, 29, .int pt), (r0, 16, 30, .int pe)]) [0, 1] rfl), by first | omega | (refine ⟨?_, ?_, ?_, ?_⟩ <;> (first | omega | rfl | assumption | decide | exact Or.inl rfl | exact Or.inr rfl | (simp only; omega)))⟩⟩ rfl rfl hl.1 rfl (lv_room (Nat.le_of_ble_eq_true rfl)) dX14_escape_1 ⟨Nat.zero_le _, Nat.zero_le _⟩) hh.1 (fun q _ h => h) (fun q h => h) (fun r_2 u_1 t_1 H_1 locs_1 ht_1 hvm_1 hr_2 hb_1 hz_1 hk_1 hS_1 => ?_)
  rw [ht_1] at hb_1
  obtain ⟨hb_11, hb_12, hb_13, hb_14, hb_15⟩ := hb_1
  have hh_1 : jSt (dC, dI) B base G0 G0 EX14_escape s.heap 0 0 [(r0, 16, 29, .int pt), (r0, 16, 30, .int pe), (r0, 16, 28, .int pp), (r0, 16, 31, .int pb)] [] [] H_1 locs_1 := ((hh.call hb_11 hb_12 hb_13 hb_14 hS_1 rfl (L1 := [(r0, 16, 29, .int pt), (r0, 16, 30, .int pe), (r0, 16, 28, .int pp), (r0, 16, 31, .int pb)]) [0, 1, 2, 3] rfl rfl (M1 := []) [] rfl rfl (I1 := []) [] rfl rfl).more hb_15)
  clear hh ht_1 hvm_1 hz_1 hk_1 hS_1 hb_11 hb_12 hb_13 hb_14 hb_15
  obtain ⟨hr_2_0, hr_2_1, hr_2_2⟩ := hr_2
  refine lv_istore_n (lv' := [(1, .int r_2), (0, .ref r0)]) hx hb dX14_escape_4 rfl hl (by decide) rfl (fun ls hl => ?_)
  refine lv_aload_n hx hb dX14_escape_5 rfl (lv_at hl 1 rfl) ?_
  refine lv_dup hx hb dX14_escape_6 rfl ?_
  refine j7_read hx hb hown hK (C := RX14) (T := TX14) (N := 74) rfl hly_16_29 hlk_273 (hh_1.at 0 rfl) dX14_escape_7 ?_
  refine lv_iconst (v := 1) hx hb dX14_escape_10 (by decide) ?_
  refine lv_iadd hx hb dX14_escape_11 ?_
  refine lv_topi (fun z_3 ez_3 => ?_)
  have hz_3 : z_3.toInt = pt.toInt + 1 := by rw [ez_3]; exact jb_iadd2 (rfl) ((by decide)) (by omega)
  refine j7_put hx hb hown hK hh_1 hB hAp hB16 (C := RX14) (T := TX14) (N := 74) rfl (by decide) hg_r0 (i := 29) (by decide) hly_16_29 rfl hlk_273 rfl (ty := .int) (v := .int z_3) (by decide +kernel) rfl rfl (⟨_, rfl, by omega, by omega⟩) rfl (L1 := [(r0, 16, 30, .int pe), (r0, 16, 28, .int pp), (r0, 16, 31, .int pb)]) [1, 2, 3] rfl rfl rfl dX14_escape_12 (fun H_4 locs_4 hh_4 => ?_)
  clear hh_1
  refine j_ldcSw hx hb hown rstr337 dX14_escape_15 ?_
  refine lv_astore_n (lv' := [(2, .ref str337), (1, .int r_2), (0, .ref r0)]) hx hb dX14_escape_18 rfl hl (by decide) rfl (fun ls hl => ?_)
  refine lv_iload_n hx hb dX14_escape_19 rfl (lv_at hl 1 rfl) ?_
  have C32 : ∀ (w0_5 : Int32) (H_5 : Heap) (locs_5 : List Loc), jSt (dC, dI) B base G0 G0 EX14_escape s.heap 0 0 [(r0, 16, 29, .int z_3), (r0, 16, 30, .int pe), (r0, 16, 28, .int pp), (r0, 16, 31, .int pb)] [] [] H_5 locs_5 → (-1 ≤ w0_5.toInt ∧ (r_2.toInt = -1 ∨ pt.toInt < pe.toInt) ∧ (w0_5.toInt = -1 ∨ 0 ≤ r_2.toInt)) → ∀ ls : Array Slot, lv_has ls 6 [(0, .ref r0), (1, .int r_2), (2, .ref str337)] → W p l e R s m ([.ref r0] : List Value).toArray below meth c H_5 locs_5 0 0 Q (F0 m 32 ls [.int w0_5]) := by
    intro w0_5 H_5 locs_5 hh_5  hi_5 ls hl
    obtain ⟨hi_5_0, hi_5_1, hi_5_2⟩ := hi_5
    try clear hr_2_2
    refine lv_istore_n (lv' := [(3, .int w0_5), (0, .ref r0), (1, .int r_2), (2, .ref str337)]) hx hb dX14_escape_32 rfl hl (by decide) rfl (fun ls hl => ?_)
    refine lv_iload_n hx hb dX14_escape_33 rfl (lv_at hl 0 rfl) ?_
    refine lv_if_lt (tgt := 97) hx hb dX14_escape_34 (by decide) (fun c_6 => ?_) (fun c_6 => ?_)
    · skip
      have c_6' : w0_5.toInt < 0 := jb_lt (rfl) ((by decide)) c_6
      refine lv_iload_n hx hb dX14_escape_97 rfl (lv_at hl 2 rfl) ?_
      refine lv_bipush (v := 117) hx hb dX14_escape_98 (by decide) ?_
      refine lv_icmp_ne (tgt := 110) hx hb dX14_escape_100 (by decide) (fun c_7 => ?_) (fun c_7 => ?_)
      · skip
        have c_7' : r_2.toInt ≠ 117 := jb_ne (rfl) ((by decide)) c_7
        refine lv_iconst (v := (-1)) hx hb dX14_escape_110 (by decide) ?_
        refine lv_istore (lv' := [(4, .int (-1)), (3, .int w0_5), (0, .ref r0), (1, .int r_2), (2, .ref str337)]) hx hb dX14_escape_111 hl (by decide) rfl (fun ls hl => ?_)
        refine lv_iload hx hb dX14_escape_113 (lv_at hl 0 rfl) ?_
        refine lv_if_lt (tgt := 130) hx hb dX14_escape_115 (by decide) (fun c_8 => ?_) (fun c_8 => ?_)
        · skip
          refine lv_aload_n hx hb dX14_escape_130 rfl (lv_at hl 2 rfl) ?_
          refine lv_iconst (v := 1) hx hb dX14_escape_131 (by decide) ?_
          refine j7_put hx hb hown hK hh_5 hB hAp hB16 (C := RX14) (T := TX14) (N := 74) rfl (by decide) hg_r0 (i := 31) (by decide) hly_16_31 rfl hlk_288 rfl (ty := .boolean) (v := .int 1) (by decide +kernel) (jb_nz (Or.inr rfl)) (jb_fz (Or.inr rfl)) (⟨_, rfl, (Or.inr rfl)⟩) rfl (L1 := [(r0, 16, 29, .int z_3), (r0, 16, 30, .int pe), (r0, 16, 28, .int pp)]) [0, 1, 2] rfl rfl rfl dX14_escape_132 (fun H_9 locs_9 hh_9 => ?_)
          clear hh_5
          rw [hQ]
          exact W.vret hx hb hr (fun t ht hW => ⟨⟨(z_3, pp, 1), rfl, by first | omega | (refine ⟨?_, ?_, ?_, ?_, ?_, ?_, ?_⟩ <;> (first | omega | rfl | assumption | decide | exact Or.inl rfl | exact Or.inr rfl | (simp only; omega))), hh_9.rt (M1 := [(r0, 16, 29, .int z_3), (r0, 16, 28, .int pp), (r0, 16, 31, .int 1)]) [1, 3, 0] rfl ht⟩, by rw [ht]; try exact hh_9.1.1, fun q h9 hq => by rw [ht]; try exact hh_9.1.2.1 q h9 hq⟩) hh_9.1.2.2 dX14_escape_135
        · skip
          exact absurd c_8 (by decide)
      · skip
        have c_7' : r_2.toInt = 117 := jb_ne_n (rfl) ((by decide)) c_7
        refine lv_aload_n hx hb dX14_escape_103 rfl (lv_at hl 1 rfl) ?_
        refine va_calli (A0 := jA base) (H0 := s.heap) (va_runV (As := []) (rest := []) ⟨hx, hb, hml, hown, hts⟩ (uX14_four l dC dI ca base B hB hAp hB16 hB110 G0 H_5 r0 z_3 pe) (cwV 0 hts (jgV (jWr_52 _ (List.mem_of_getElem? (i := 3) rfl)) (jWr_52 _ (List.mem_of_getElem? (i := 4) rfl)) (jWr_52 _ (List.mem_of_getElem? (i := 5) rfl)) (jWr_1 _ (List.mem_of_getElem? (i := 5) rfl)) (jWr_52 _ (List.mem_of_getElem? (i := 6) rfl))) rfl rfl rfl (by decide +kernel) ⟨by rw [← hR]; exact Nat.le_of_ble_eq_true rfl, by rw [← hR]; exact Nat.le_of_ble_eq_true rfl⟩) ⟨fun a U g mk q => by obtain ⟨q0, q1, q2, qK, q10, q11, q12⟩ := q; exact ⟨q0, q1, q2, jG.calling g mk a qK, q10, q11, q12⟩, hh_5.recv (C := RX14) (T := TX14) (N := 74) hB16 rfl (by decide) hg_r0 hK, fun U hU hW => ⟨rfl, hU, hh_5.2.1, hG.step hW hU hh_5.1, hg_r0, (hh_5.2.2.1.sub (L1 := [(r0, 16, 29, .int z_3), (r0, 16, 30, .int pe)]) [0, 1] rfl), by first | omega | (refine ⟨?_, ?_, ?_, ?_, ?_⟩ <;> (first | omega | rfl | assumption | decide | exact Or.inl rfl | exact Or.inr rfl | (simp only; omega)))⟩⟩ rfl rfl hl.1 rfl (lv_room (Nat.le_of_ble_eq_true rfl)) dX14_escape_104 ⟨Nat.zero_le _, Nat.zero_le _⟩) hh_5.1 (fun q _ h => h) (fun q h => h) (fun r_11 u_10 t_10 H_10 locs_10 ht_10 hvm_10 hr_11 hb_10 hz_10 hk_10 hS_10 => ?_)
        obtain ⟨qt_10, rfl⟩ : ∃ z, z = u_10 := ⟨_, rfl⟩
        rw [ht_10] at hb_10
        obtain ⟨hb_101, hb_102, hb_103, hb_104, hb_105⟩ := hb_10
        have hh_10 : jSt (dC, dI) B base G0 G0 EX14_escape s.heap 0 0 [(r0, 16, 29, .int qt_10), (r0, 16, 30, .int pe), (r0, 16, 28, .int pp)] [] [] H_10 locs_10 := ((hh_5.call hb_101 hb_102 hb_103 hb_104 hS_10 rfl (L1 := [(r0, 16, 30, .int pe), (r0, 16, 28, .int pp)]) [1, 2] rfl rfl (M1 := []) [] rfl rfl (I1 := []) [] rfl rfl).more hb_105)
        clear hh_5 ht_10 hvm_10 hz_10 hk_10 hS_10 hb_101 hb_102 hb_103 hb_104 hb_105
        obtain ⟨hr_11_0, hr_11_1, hr_11_2, hr_11_3⟩ := hr_11
        refine lv_goto (tgt := 111) hx hb dX14_escape_107 (by decide) ?_
        refine lv_istore (lv' := [(4, .int r_11), (3, .int w0_5), (0, .ref r0), (1, .int r_2), (2, .ref str337)]) hx hb dX14_escape_111 hl (by decide) rfl (fun ls hl => ?_)
        refine lv_iload hx hb dX14_escape_113 (lv_at hl 0 rfl) ?_
        refine lv_if_lt (tgt := 130) hx hb dX14_escape_115 (by decide) (fun c_12 => ?_) (fun c_12 => ?_)
        · skip
          have c_12' : r_11.toInt < 0 := jb_lt (rfl) ((by decide)) c_12
          refine lv_aload_n hx hb dX14_escape_130 rfl (lv_at hl 2 rfl) ?_
          refine lv_iconst (v := 1) hx hb dX14_escape_131 (by decide) ?_
          refine j7_put hx hb hown hK hh_10 hB hAp hB16 (C := RX14) (T := TX14) (N := 74) rfl (by decide) hg_r0 (i := 31) (by decide) hly_16_31 rfl hlk_288 rfl (ty := .boolean) (v := .int 1) (by decide +kernel) (jb_nz (Or.inr rfl)) (jb_fz (Or.inr rfl)) (⟨_, rfl, (Or.inr rfl)⟩) rfl (L1 := [(r0, 16, 29, .int qt_10), (r0, 16, 30, .int pe), (r0, 16, 28, .int pp)]) [0, 1, 2] rfl rfl rfl dX14_escape_132 (fun H_13 locs_13 hh_13 => ?_)
          clear hh_10
          rw [hQ]
          exact W.vret hx hb hr (fun t ht hW => ⟨⟨(qt_10, pp, 1), rfl, by first | omega | (refine ⟨?_, ?_, ?_, ?_, ?_, ?_, ?_⟩ <;> (first | omega | rfl | assumption | decide | exact Or.inl rfl | exact Or.inr rfl | (simp only; omega))), hh_13.rt (M1 := [(r0, 16, 29, .int qt_10), (r0, 16, 28, .int pp), (r0, 16, 31, .int 1)]) [1, 3, 0] rfl ht⟩, by rw [ht]; try exact hh_13.1.1, fun q h9 hq => by rw [ht]; try exact hh_13.1.2.1 q h9 hq⟩) hh_13.1.2.2 dX14_escape_135
        · skip
          have c_12' : r_11.toInt ≥ 0 := jb_lt_n (rfl) ((by decide)) c_12
          refine lv_iload hx hb dX14_escape_118 (lv_at hl 0 rfl) ?_
          refine lv_ldc hx hb hown hcs_185 dX14_escape_120 ?_
          refine lv_ldc hx hb hown hcs_186 dX14_escape_122 ?_
          refine va_calli (A0 := jA base) (H0 := s.heap) (va_runS (As := [.int r_11, .int 56320, .int 57343]) (rest := []) ⟨hx, hb, hml, hown, hts⟩ (uX14_in l dC dI ca base B hB hAp G0 H_10 r_11 56320 57343) (va_cwS 3 hts (jgS (jWr_48 _ (List.mem_of_getElem? (i := 10) rfl)) (jWr_48 _ (List.mem_of_getElem? (i := 11) rfl)) (jWr_1 _ (List.mem_of_getElem? (i := 5) rfl)) (jWr_48 _ (List.mem_of_getElem? (i := 12) rfl))) rfl rfl rfl (by decide +kernel) ⟨by rw [← hR]; exact Nat.le_of_ble_eq_true rfl, by rw [← hR]; exact Nat.le_of_ble_eq_true rfl⟩) ⟨fun a U g mk q => by obtain ⟨q0, q1, q2, qK, q10, q11⟩ := q; exact ⟨q0, q1, q2, jG.calling g mk a qK, q10, q11⟩, fun U hU hW => ⟨rfl, hU, hh_10.2.1, hG.step hW hU hh_10.1, jP.nil, trivial⟩⟩ rfl rfl hl.1 rfl (lv_room (Nat.le_of_ble_eq_true rfl)) dX14_escape_124 ⟨Nat.zero_le _, Nat.zero_le _⟩) hh_10.1 (fun q _ h => h) (fun q h => h) (fun r_15 u_14 t_14 H_14 locs_14 ht_14 hvm_14 hr_15 hb_14 hz_14 hk_14 hS_14 => ?_)
          rw [ht_14] at hb_14
          obtain ⟨hb_141, hb_142, hb_143, hb_144, hb_145⟩ := hb_14
          have hh_14 : jSt (dC, dI) B base G0 G0 EX14_escape s.heap 0 0 [(r0, 16, 29, .int qt_10), (r0, 16, 30, .int pe), (r0, 16, 28, .int pp)] [] [] H_14 locs_14 := ((hh_10.call hb_141 hb_142 hb_143 hb_144 hS_14 rfl (L1 := [(r0, 16, 29, .int qt_10), (r0, 16, 30, .int pe), (r0, 16, 28, .int pp)]) [0, 1, 2] rfl rfl (M1 := []) [] rfl rfl (I1 := []) [] rfl rfl).more hb_145)
          clear hh_10 ht_14 hvm_14 hz_14 hk_14 hS_14 hb_141 hb_142 hb_143 hb_144 hb_145
          obtain ⟨hr_15b, hr_15p⟩ := hr_15
          obtain ⟨hr_15p_0, hr_15p_1, hr_15p_2⟩ := hr_15p
          have hr_15' := jb_01 hr_15b
          refine lv_if_eq (tgt := 136) hx hb dX14_escape_127 (by decide) (fun c_16 => ?_) (fun c_16 => ?_)
          · skip
            have c_16' : r_15.toInt = 0 := jb_eq (rfl) ((by decide)) c_16
            refine lv_iload hx hb dX14_escape_136 (lv_at hl 0 rfl) ?_
            refine lv_ldc hx hb hown hcs_179 dX14_escape_138 ?_
            refine lv_ldc hx hb hown hcs_180 dX14_escape_140 ?_
            refine va_calli (A0 := jA base) (H0 := s.heap) (va_runS (As := [.int r_11, .int 55296, .int 56319]) (rest := []) ⟨hx, hb, hml, hown, hts⟩ (uX14_in l dC dI ca base B hB hAp G0 H_14 r_11 55296 56319) (va_cwS 3 hts (jgS (jWr_48 _ (List.mem_of_getElem? (i := 10) rfl)) (jWr_48 _ (List.mem_of_getElem? (i := 11) rfl)) (jWr_1 _ (List.mem_of_getElem? (i := 5) rfl)) (jWr_48 _ (List.mem_of_getElem? (i := 12) rfl))) rfl rfl rfl (by decide +kernel) ⟨by rw [← hR]; exact Nat.le_of_ble_eq_true rfl, by rw [← hR]; exact Nat.le_of_ble_eq_true rfl⟩) ⟨fun a U g mk q => by obtain ⟨q0, q1, q2, qK, q10, q11⟩ := q; exact ⟨q0, q1, q2, jG.calling g mk a qK, q10, q11⟩, fun U hU hW => ⟨rfl, hU, hh_14.2.1, hG.step hW hU hh_14.1, jP.nil, trivial⟩⟩ rfl rfl hl.1 rfl (lv_room (Nat.le_of_ble_eq_true rfl)) dX14_escape_142 ⟨Nat.zero_le _, Nat.zero_le _⟩) hh_14.1 (fun q _ h => h) (fun q h => h) (fun r_18 u_17 t_17 H_17 locs_17 ht_17 hvm_17 hr_18 hb_17 hz_17 hk_17 hS_17 => ?_)
            rw [ht_17] at hb_17
            obtain ⟨hb_171, hb_172, hb_173, hb_174, hb_175⟩ := hb_17
            have hh_17 : jSt (dC, dI) B base G0 G0 EX14_escape s.heap 0 0 [(r0, 16, 29, .int qt_10), (r0, 16, 30, .int pe), (r0, 16, 28, .int pp)] [] [] H_17 locs_17 := ((hh_14.call hb_171 hb_172 hb_173 hb_174 hS_17 rfl (L1 := [(r0, 16, 29, .int qt_10), (r0, 16, 30, .int pe), (r0, 16, 28, .int pp)]) [0, 1, 2] rfl rfl (M1 := []) [] rfl rfl (I1 := []) [] rfl rfl).more hb_175)
            clear hh_14 ht_17 hvm_17 hz_17 hk_17 hS_17 hb_171 hb_172 hb_173 hb_174 hb_175
            obtain ⟨hr_18b, hr_18p⟩ := hr_18
            obtain ⟨hr_18p_0, hr_18p_1, hr_18p_2⟩ := hr_18p
            have hr_18' := jb_01 hr_18b
            refine lv_if_ne (tgt := 155) hx hb dX14_escape_145 (by decide) (fun c_19 => ?_) (fun c_19 => ?_)
            · skip
              have c_19' : r_18.toInt ≠ 0 := jb_ne (rfl) ((by decide)) c_19
              refine lv_aload_n hx hb dX14_escape_155 rfl (lv_at hl 2 rfl) ?_
              refine j_ldcSw hx hb hown rstr348 dX14_escape_156 ?_
              refine va_calli (A0 := jA base) (H0 := s.heap) (va_runV (As := [.ref str348]) (rest := []) ⟨hx, hb, hml, hown, hts⟩ (uX14_takes l dC dI ca base B hB hAp hB16 hB110 G0 H_17 r0 str348 2 qt_10 pe) (cwV 1 hts (jgV (jWr_52 _ (List.mem_of_getElem? (i := 10) rfl)) (jWr_52 _ (List.mem_of_getElem? (i := 11) rfl)) (jWr_52 _ (List.mem_of_getElem? (i := 12) rfl)) (jWr_1 _ (List.mem_of_getElem? (i := 5) rfl)) (jWr_52 _ (List.mem_of_getElem? (i := 13) rfl))) rfl rfl rfl (by decide +kernel) ⟨by rw [← hR]; exact Nat.le_of_ble_eq_true rfl, by rw [← hR]; exact Nat.le_of_ble_eq_true rfl⟩) ⟨fun a U g mk q => by obtain ⟨q0, q1, q2, qK, q10, q11, q12, q13⟩ := q; exact ⟨q0, q1, q2, jG.calling g mk a qK, (q10.moved (Vm.Alike.refl U.vm)), q11, q12, q13⟩, hh_17.recv (C := RX14) (T := TX14) (N := 74) hB16 rfl (by decide) hg_r0 hK, fun U hU hW => ⟨rfl, hU, hh_17.2.1, hG.step hW hU hh_17.1, (hstr348.moved hW.alike).kept hh_17.1.2.1, hg_r0, (hh_17.2.2.1.sub (L1 := [(r0, 16, 29, .int qt_10), (r0, 16, 30, .int pe)]) [0, 1] rfl), by first | omega | (refine ⟨?_, ?_, ?_, ?_, ?_, ?_, ?_⟩ <;> (first | omega | rfl | assumption | decide | exact Or.inl rfl | exact Or.inr rfl | (simp only; omega)))⟩⟩ rfl rfl hl.1 rfl (lv_room (Nat.le_of_ble_eq_true rfl)) dX14_escape_159 ⟨Nat.zero_le _, Nat.zero_le _⟩) hh_17.1 (fun q _ h => h) (fun q h => h) (fun r_21 u_20 t_20 H_20 locs_20 ht_20 hvm_20 hr_21 hb_20 hz_20 hk_20 hS_20 => ?_)
              obtain ⟨qt_20, rfl⟩ : ∃ z, z = u_20 := ⟨_, rfl⟩
              rw [ht_20] at hb_20
              obtain ⟨hb_201, hb_202, hb_203, hb_204, hb_205⟩ := hb_20
              have hh_20 : jSt (dC, dI) B base G0 G0 EX14_escape s.heap 0 0 [(r0, 16, 29, .int qt_20), (r0, 16, 30, .int pe), (r0, 16, 28, .int pp)] [] [] H_20 locs_20 := ((hh_17.call hb_201 hb_202 hb_203 hb_204 hS_20 rfl (L1 := [(r0, 16, 30, .int pe), (r0, 16, 28, .int pp)]) [1, 2] rfl rfl (M1 := []) [] rfl rfl (I1 := []) [] rfl rfl).more hb_205)
              clear hh_17 ht_20 hvm_20 hz_20 hk_20 hS_20 hb_201 hb_202 hb_203 hb_204 hb_205
              obtain ⟨hr_21b, hr_21p⟩ := hr_21
              obtain ⟨hr_21p_0, hr_21p_1, hr_21p_2⟩ := hr_21p
              have hr_21' := jb_01 hr_21b
              refine lv_if_eq (tgt := 172) hx hb dX14_escape_162 (by decide) (fun c_22 => ?_) (fun c_22 => ?_)
              · skip
                have c_22' : r_21.toInt = 0 := jb_eq (rfl) ((by decide)) c_22
                refine lv_iconst (v := (-1)) hx hb dX14_escape_172 (by decide) ?_
                refine lv_istore (lv' := [(5, .int (-1)), (4, .int r_11), (3, .int w0_5), (0, .ref r0), (1, .int r_2), (2, .ref str337)]) hx hb dX14_escape_173 hl (by decide) rfl (fun ls hl => ?_)
                refine lv_iload hx hb dX14_escape_175 (lv_at hl 0 rfl) ?_
                refine lv_ldc hx hb hown hcs_185 dX14_escape_177 ?_
                refine lv_ldc hx hb hown hcs_186 dX14_escape_179 ?_
                refine va_calli (A0 := jA base) (H0 := s.heap) (va_runS (As := [.int (-1), .int 56320, .int 57343]) (rest := []) ⟨hx, hb, hml, hown, hts⟩ (uX14_in l dC dI ca base B hB hAp G0 H_20 (-1) 56320 57343) (va_cwS 3 hts (jgS (jWr_48 _ (List.mem_of_getElem? (i := 10) rfl)) (jWr_48 _ (List.mem_of_getElem? (i := 11) rfl)) (jWr_1 _ (List.mem_of_getElem? (i := 5) rfl)) (jWr_48 _ (List.mem_of_getElem? (i := 12) rfl))) rfl rfl rfl (by decide +kernel) ⟨by rw [← hR]; exact Nat.le_of_ble_eq_true rfl, by rw [← hR]; exact Nat.le_of_ble_eq_true rfl⟩) ⟨fun a U g mk q => by obtain ⟨q0, q1, q2, qK, q10, q11⟩ := q; exact ⟨q0, q1, q2, jG.calling g mk a qK, q10, q11⟩, fun U hU hW => ⟨rfl, hU, hh_20.2.1, hG.step hW hU hh_20.1, jP.nil, trivial⟩⟩ rfl rfl hl.1 rfl (lv_room (Nat.le_of_ble_eq_true rfl)) dX14_escape_181 ⟨Nat.zero_le _, Nat.zero_le _⟩) hh_20.1 (fun q _ h => h) (fun q h => h) (fun r_24 u_23 t_23 H_23 locs_23 ht_23 hvm_23 hr_24 hb_23 hz_23 hk_23 hS_23 => ?_)
                rw [ht_23] at hb_23
                obtain ⟨hb_231, hb_232, hb_233, hb_234, hb_235⟩ := hb_23
                have hh_23 : jSt (dC, dI) B base G0 G0 EX14_escape s.heap 0 0 [(r0, 16, 29, .int qt_20), (r0, 16, 30, .int pe), (r0, 16, 28, .int pp)] [] [] H_23 locs_23 := ((hh_20.call hb_231 hb_232 hb_233 hb_234 hS_23 rfl (L1 := [(r0, 16, 29, .int qt_20), (r0, 16, 30, .int pe), (r0, 16, 28, .int pp)]) [0, 1, 2] rfl rfl (M1 := []) [] rfl rfl (I1 := []) [] rfl rfl).more hb_235)
                clear hh_20 ht_23 hvm_23 hz_23 hk_23 hS_23 hb_231 hb_232 hb_233 hb_234 hb_235
                obtain ⟨hr_24b, hr_24p⟩ := hr_24
                obtain ⟨hr_24p_0, hr_24p_1, hr_24p_2⟩ := hr_24p
                have hr_24' := jb_01 hr_24b
                refine lv_if_ne (tgt := 193) hx hb dX14_escape_184 (by decide) (fun c_25 => ?_) (fun c_25 => ?_)
                · skip
                  have c_25' : r_24.toInt ≠ 0 := jb_ne (rfl) ((by decide)) c_25
                  refine lv_aload_n hx hb dX14_escape_193 rfl (lv_at hl 3 rfl) ?_
                  refine lv_iload hx hb dX14_escape_194 (lv_at hl 1 rfl) ?_
                  refine va_callv (A0 := jA base) (H0 := s.heap) (va_runV (As := [.int r_11]) (rest := []) ⟨hx, hb, hml, hown, hts⟩ (uX14_unit l dC dI ca base B hB hAp hB16 hB127 G0 H_23 r0 r_11 pp) (cwV 1 hts (jgV (jWr_51 _ (List.mem_of_getElem? (i := 21) rfl)) (jWr_51 _ (List.mem_of_getElem? (i := 22) rfl)) (jWr_51 _ (List.mem_of_getElem? (i := 23) rfl)) (jWr_1 _ (List.mem_of_getElem? (i := 5) rfl)) (jWr_52 _ (List.mem_of_getElem? (i := 0) rfl))) rfl rfl rfl (by decide +kernel) ⟨by rw [← hR]; exact Nat.le_of_ble_eq_true rfl, by rw [← hR]; exact Nat.le_of_ble_eq_true rfl⟩) ⟨fun a U g mk q => by obtain ⟨q0, q1, q2, qK, q10, q11, q12⟩ := q; exact ⟨q0, q1, q2, jG.calling g mk a qK, q10, q11, q12⟩, hh_23.recv (C := RX14) (T := TX14) (N := 74) hB16 rfl (by decide) hg_r0 hK, fun U hU hW => ⟨rfl, hU, hh_23.2.1, hG.step hW hU hh_23.1, hg_r0, (hh_23.2.2.1.sub (L1 := [(r0, 16, 28, .int pp)]) [2] rfl), by first | omega | (refine ⟨?_, ?_⟩ <;> (first | omega | rfl | assumption | decide | exact Or.inl rfl | exact Or.inr rfl | (simp only; omega)))⟩⟩ rfl rfl hl.1 rfl (lv_room (Nat.le_of_ble_eq_true rfl)) dX14_escape_196 ⟨Nat.zero_le _, Nat.zero_le _⟩) hh_23.1 (fun q _ h => h) (fun q h => h) (fun u_26 t_26 H_26 locs_26 ht_26 hvm_26 hr_27 hb_26 hz_26 hk_26 hS_26 => ?_)
                  obtain ⟨qp_26, rfl⟩ : ∃ z, z = u_26 := ⟨_, rfl⟩
                  rw [ht_26] at hb_26
                  obtain ⟨hb_261, hb_262, hb_263, hb_264, hb_265⟩ := hb_26
                  have hh_26 : jSt (dC, dI) B base G0 G0 EX14_escape s.heap 0 0 [(r0, 16, 28, .int qp_26), (r0, 16, 29, .int qt_20), (r0, 16, 30, .int pe)] [] [] H_26 locs_26 := ((hh_23.call hb_261 hb_262 hb_263 hb_264 hS_26 rfl (L1 := [(r0, 16, 29, .int qt_20), (r0, 16, 30, .int pe)]) [0, 1] rfl rfl (M1 := []) [] rfl rfl (I1 := []) [] rfl rfl).more hb_265)
                  clear hh_23 ht_26 hvm_26 hz_26 hk_26 hS_26 hb_261 hb_262 hb_263 hb_264 hb_265
                  obtain ⟨hr_27_0, hr_27_1, hr_27_2⟩ := hr_27
                  refine lv_aload_n hx hb dX14_escape_199 rfl (lv_at hl 3 rfl) ?_
                  refine lv_iload hx hb dX14_escape_200 (lv_at hl 0 rfl) ?_
                  refine va_callv (A0 := jA base) (H0 := s.heap) (va_runV (As := [.int (-1)]) (rest := []) ⟨hx, hb, hml, hown, hts⟩ (uX14_unit l dC dI ca base B hB hAp hB16 hB127 G0 H_26 r0 (-1) qp_26) (cwV 1 hts (jgV (jWr_51 _ (List.mem_of_getElem? (i := 21) rfl)) (jWr_51 _ (List.mem_of_getElem? (i := 22) rfl)) (jWr_51 _ (List.mem_of_getElem? (i := 23) rfl)) (jWr_1 _ (List.mem_of_getElem? (i := 5) rfl)) (jWr_52 _ (List.mem_of_getElem? (i := 0) rfl))) rfl rfl rfl (by decide +kernel) ⟨by rw [← hR]; exact Nat.le_of_ble_eq_true rfl, by rw [← hR]; exact Nat.le_of_ble_eq_true rfl⟩) ⟨fun a U g mk q => by obtain ⟨q0, q1, q2, qK, q10, q11, q12⟩ := q; exact ⟨q0, q1, q2, jG.calling g mk a qK, q10, q11, q12⟩, hh_26.recv (C := RX14) (T := TX14) (N := 74) hB16 rfl (by decide) hg_r0 hK, fun U hU hW => ⟨rfl, hU, hh_26.2.1, hG.step hW hU hh_26.1, hg_r0, (hh_26.2.2.1.sub (L1 := [(r0, 16, 28, .int qp_26)]) [0] rfl), by first | omega | (refine ⟨?_, ?_⟩ <;> (first | omega | rfl | assumption | decide | exact Or.inl rfl | exact Or.inr rfl | (simp only; omega)))⟩⟩ rfl rfl hl.1 rfl (lv_room (Nat.le_of_ble_eq_true rfl)) dX14_escape_202 ⟨Nat.zero_le _, Nat.zero_le _⟩) hh_26.1 (fun q _ h => h) (fun q h => h) (fun u_28 t_28 H_28 locs_28 ht_28 hvm_28 hr_29 hb_28 hz_28 hk_28 hS_28 => ?_)
                  obtain ⟨qp_28, rfl⟩ : ∃ z, z = u_28 := ⟨_, rfl⟩
                  rw [ht_28] at hb_28
                  obtain ⟨hb_281, hb_282, hb_283, hb_284, hb_285⟩ := hb_28
                  have hh_28 : jSt (dC, dI) B base G0 G0 EX14_escape s.heap 0 0 [(r0, 16, 28, .int qp_28), (r0, 16, 29, .int qt_20), (r0, 16, 30, .int pe)] [] [] H_28 locs_28 := ((hh_26.call hb_281 hb_282 hb_283 hb_284 hS_28 rfl (L1 := [(r0, 16, 29, .int qt_20), (r0, 16, 30, .int pe)]) [1, 2] rfl rfl (M1 := []) [] rfl rfl (I1 := []) [] rfl rfl).more hb_285)
                  clear hh_26 ht_28 hvm_28 hz_28 hk_28 hS_28 hb_281 hb_282 hb_283 hb_284 hb_285
                  obtain ⟨hr_29_0, hr_29_1, hr_29_2⟩ := hr_29
                  rw [hQ]
                  obtain ⟨v_30, hv_30, hh_31⟩ := hh_28.pin (C := RX14) (T := TX14) (N := 74) hB16 rfl (by decide) hg_r0 (i := 31) (by decide) rfl
                  obtain ⟨bad_32, rfl, hzbad_32⟩ := hv_30
                  have hzbad_32' := jb_01 hzbad_32
                  exact W.vret hx hb hr (fun t ht hW => ⟨⟨(qt_20, qp_28, bad_32), rfl, by first | omega | (refine ⟨?_, ?_, ?_, ?_, ?_, ?_, ?_⟩ <;> (first | omega | rfl | assumption | decide | exact Or.inl rfl | exact Or.inr rfl | (simp only; omega))), hh_31.rt (M1 := [(r0, 16, 29, .int qt_20), (r0, 16, 28, .int qp_28), (r0, 16, 31, .int bad_32)]) [2, 1, 0] rfl ht⟩, by rw [ht]; try exact hh_31.1.1, fun q h9 hq => by rw [ht]; try exact hh_31.1.2.1 q h9 hq⟩) hh_31.1.2.2 dX14_escape_205
                · skip
                  have c_25' : r_24.toInt = 0 := jb_ne_n (rfl) ((by decide)) c_25
                  refine lv_aload_n hx hb dX14_escape_187 rfl (lv_at hl 3 rfl) ?_
                  refine lv_iconst (v := 1) hx hb dX14_escape_188 (by decide) ?_
                  refine j7_put hx hb hown hK hh_23 hB hAp hB16 (C := RX14) (T := TX14) (N := 74) rfl (by decide) hg_r0 (i := 31) (by decide) hly_16_31 rfl hlk_288 rfl (ty := .boolean) (v := .int 1) (by decide +kernel) (jb_nz (Or.inr rfl)) (jb_fz (Or.inr rfl)) (⟨_, rfl, (Or.inr rfl)⟩) rfl (L1 := [(r0, 16, 29, .int qt_20), (r0, 16, 30, .int pe), (r0, 16, 28, .int pp)]) [0, 1, 2] rfl rfl rfl dX14_escape_189 (fun H_33 locs_33 hh_33 => ?_)
                  clear hh_23
                  rw [hQ]
                  exact W.vret hx hb hr (fun t ht hW => ⟨⟨(qt_20, pp, 1), rfl, by first | omega | (refine ⟨?_, ?_, ?_, ?_, ?_, ?_, ?_⟩ <;> (first | omega | rfl | assumption | decide | exact Or.inl rfl | exact Or.inr rfl | (simp only; omega))), hh_33.rt (M1 := [(r0, 16, 29, .int qt_20), (r0, 16, 28, .int pp), (r0, 16, 31, .int 1)]) [1, 3, 0] rfl ht⟩, by rw [ht]; try exact hh_33.1.1, fun q h9 hq => by rw [ht]; try exact hh_33.1.2.1 q h9 hq⟩) hh_33.1.2.2 dX14_escape_192
              · skip
                have c_22' : r_21.toInt ≠ 0 := jb_eq_n (rfl) ((by decide)) c_22
                refine lv_aload_n hx hb dX14_escape_165 rfl (lv_at hl 2 rfl) ?_
                refine va_calli (A0 := jA base) (H0 := s.heap) (va_runV (As := []) (rest := []) ⟨hx, hb, hml, hown, hts⟩ (uX14_four l dC dI ca base B hB hAp hB16 hB110 G0 H_20 r0 qt_20 pe) (cwV 0 hts (jgV (jWr_52 _ (List.mem_of_getElem? (i := 3) rfl)) (jWr_52 _ (List.mem_of_getElem? (i := 4) rfl)) (jWr_52 _ (List.mem_of_getElem? (i := 5) rfl)) (jWr_1 _ (List.mem_of_getElem? (i := 5) rfl)) (jWr_52 _ (List.mem_of_getElem? (i := 6) rfl))) rfl rfl rfl (by decide +kernel) ⟨by rw [← hR]; exact Nat.le_of_ble_eq_true rfl, by rw [← hR]; exact Nat.le_of_ble_eq_true rfl⟩) ⟨fun a U g mk q => by obtain ⟨q0, q1, q2, qK, q10, q11, q12⟩ := q; exact ⟨q0, q1, q2, jG.calling g mk a qK, q10, q11, q12⟩, hh_20.recv (C := RX14) (T := TX14) (N := 74) hB16 rfl (by decide) hg_r0 hK, fun U hU hW => ⟨rfl, hU, hh_20.2.1, hG.step hW hU hh_20.1, hg_r0, (hh_20.2.2.1.sub (L1 := [(r0, 16, 29, .int qt_20), (r0, 16, 30, .int pe)]) [0, 1] rfl), by first | omega | (refine ⟨?_, ?_, ?_, ?_, ?_⟩ <;> (first | omega | rfl | assumption | decide | exact Or.inl rfl | exact Or.inr rfl | (simp only; omega)))⟩⟩ rfl rfl hl.1 rfl (lv_room (Nat.le_of_ble_eq_true rfl)) dX14_escape_166 ⟨Nat.zero_le _, Nat.zero_le _⟩) hh_20.1 (fun q _ h => h) (fun q h => h) (fun r_35 u_34 t_34 H_34 locs_34 ht_34 hvm_34 hr_35 hb_34 hz_34 hk_34 hS_34 => ?_)
                obtain ⟨qt_34, rfl⟩ : ∃ z, z = u_34 := ⟨_, rfl⟩
                rw [ht_34] at hb_34
                obtain ⟨hb_341, hb_342, hb_343, hb_344, hb_345⟩ := hb_34
                have hh_34 : jSt (dC, dI) B base G0 G0 EX14_escape s.heap 0 0 [(r0, 16, 29, .int qt_34), (r0, 16, 30, .int pe), (r0, 16, 28, .int pp)] [] [] H_34 locs_34 := ((hh_20.call hb_341 hb_342 hb_343 hb_344 hS_34 rfl (L1 := [(r0, 16, 30, .int pe), (r0, 16, 28, .int pp)]) [1, 2] rfl rfl (M1 := []) [] rfl rfl (I1 := []) [] rfl rfl).more hb_345)
                clear hh_20 ht_34 hvm_34 hz_34 hk_34 hS_34 hb_341 hb_342 hb_343 hb_344 hb_345
                obtain ⟨hr_35_0, hr_35_1, hr_35_2, hr_35_3⟩ := hr_35
                refine lv_goto (tgt := 173) hx hb dX14_escape_169 (by decide) ?_
                refine lv_istore (lv' := [(5, .int r_35), (4, .int r_11), (3, .int w0_5), (0, .ref r0), (1, .int r_2), (2, .ref str337)]) hx hb dX14_escape_173 hl (by decide) rfl (fun ls hl => ?_)
                refine lv_iload hx hb dX14_escape_175 (lv_at hl 0 rfl) ?_
                refine lv_ldc hx hb hown hcs_185 dX14_escape_177 ?_
                refine lv_ldc hx hb hown hcs_186 dX14_escape_179 ?_
                refine va_calli (A0 := jA base) (H0 := s.heap) (va_runS (As := [.int r_35, .int 56320, .int 57343]) (rest := []) ⟨hx, hb, hml, hown, hts⟩ (uX14_in l dC dI ca base B hB hAp G0 H_34 r_35 56320 57343) (va_cwS 3 hts (jgS (jWr_48 _ (List.mem_of_getElem? (i := 10) rfl)) (jWr_48 _ (List.mem_of_getElem? (i := 11) rfl)) (jWr_1 _ (List.mem_of_getElem? (i := 5) rfl)) (jWr_48 _ (List.mem_of_getElem? (i := 12) rfl))) rfl rfl rfl (by decide +kernel) ⟨by rw [← hR]; exact Nat.le_of_ble_eq_true rfl, by rw [← hR]; exact Nat.le_of_ble_eq_true rfl⟩) ⟨fun a U g mk q => by obtain ⟨q0, q1, q2, qK, q10, q11⟩ := q; exact ⟨q0, q1, q2, jG.calling g mk a qK, q10, q11⟩, fun U hU hW => ⟨rfl, hU, hh_34.2.1, hG.step hW hU hh_34.1, jP.nil, trivial⟩⟩ rfl rfl hl.1 rfl (lv_room (Nat.le_of_ble_eq_true rfl)) dX14_escape_181 ⟨Nat.zero_le _, Nat.zero_le _⟩) hh_34.1 (fun q _ h => h) (fun q h => h) (fun r_37 u_36 t_36 H_36 locs_36 ht_36 hvm_36 hr_37 hb_36 hz_36 hk_36 hS_36 => ?_)
                rw [ht_36] at hb_36
                obtain ⟨hb_361, hb_362, hb_363, hb_364, hb_365⟩ := hb_36
                have hh_36 : jSt (dC, dI) B base G0 G0 EX14_escape s.heap 0 0 [(r0, 16, 29, .int qt_34), (r0, 16, 30, .int pe), (r0, 16, 28, .int pp)] [] [] H_36 locs_36 := ((hh_34.call hb_361 hb_362 hb_363 hb_364 hS_36 rfl (L1 := [(r0, 16, 29, .int qt_34), (r0, 16, 30, .int pe), (r0, 16, 28, .int pp)]) [0, 1, 2] rfl rfl (M1 := []) [] rfl rfl (I1 := []) [] rfl rfl).more hb_365)
                clear hh_34 ht_36 hvm_36 hz_36 hk_36 hS_36 hb_361 hb_362 hb_363 hb_364 hb_365
                obtain ⟨hr_37b, hr_37p⟩ := hr_37
                obtain ⟨hr_37p_0, hr_37p_1, hr_37p_2⟩ := hr_37p
                have hr_37' := jb_01 hr_37b
                refine lv_if_ne (tgt := 193) hx hb dX14_escape_184 (by decide) (fun c_38 => ?_) (fun c_38 => ?_)
                · skip
                  have c_38' : r_37.toInt ≠ 0 := jb_ne (rfl) ((by decide)) c_38
                  refine lv_aload_n hx hb dX14_escape_193 rfl (lv_at hl 3 rfl) ?_
                  refine lv_iload hx hb dX14_escape_194 (lv_at hl 1 rfl) ?_
                  refine va_callv (A0 := jA base) (H0 := s.heap) (va_runV (As := [.int r_11]) (rest := []) ⟨hx, hb, hml, hown, hts⟩ (uX14_unit l dC dI ca base B hB hAp hB16 hB127 G0 H_36 r0 r_11 pp) (cwV 1 hts (jgV (jWr_51 _ (List.mem_of_getElem? (i := 21) rfl)) (jWr_51 _ (List.mem_of_getElem? (i := 22) rfl)) (jWr_51 _ (List.mem_of_getElem? (i := 23) rfl)) (jWr_1 _ (List.mem_of_getElem? (i := 5) rfl)) (jWr_52 _ (List.mem_of_getElem? (i := 0) rfl))) rfl rfl rfl (by decide +kernel) ⟨by rw [← hR]; exact Nat.le_of_ble_eq_true rfl, by rw [← hR]; exact Nat.le_of_ble_eq_true rfl⟩) ⟨fun a U g mk q => by obtain ⟨q0, q1, q2, qK, q10, q11, q12⟩ := q; exact ⟨q0, q1, q2, jG.calling g mk a qK, q10, q11, q12⟩, hh_36.recv (C := RX14) (T := TX14) (N := 74) hB16 rfl (by decide) hg_r0 hK, fun U hU hW => ⟨rfl, hU, hh_36.2.1, hG.step hW hU hh_36.1, hg_r0, (hh_36.2.2.1.sub (L1 := [(r0, 16, 28, .int pp)]) [2] rfl), by first | omega | (refine ⟨?_, ?_⟩ <;> (first | omega | rfl | assumption | decide | exact Or.inl rfl | exact Or.inr rfl | (simp only; omega)))⟩⟩ rfl rfl hl.1 rfl (lv_room (Nat.le_of_ble_eq_true rfl)) dX14_escape_196 ⟨Nat.zero_le _, Nat.zero_le _⟩) hh_36.1 (fun q _ h => h) (fun q h => h) (fun u_39 t_39 H_39 locs_39 ht_39 hvm_39 hr_40 hb_39 hz_39 hk_39 hS_39 => ?_)
                  obtain ⟨qp_39, rfl⟩ : ∃ z, z = u_39 := ⟨_, rfl⟩
                  rw [ht_39] at hb_39
                  obtain ⟨hb_391, hb_392, hb_393, hb_394, hb_395⟩ := hb_39
                  have hh_39 : jSt (dC, dI) B base G0 G0 EX14_escape s.heap 0 0 [(r0, 16, 28, .int qp_39), (r0, 16, 29, .int qt_34), (r0, 16, 30, .int pe)] [] [] H_39 locs_39 := ((hh_36.call hb_391 hb_392 hb_393 hb_394 hS_39 rfl (L1 := [(r0, 16, 29, .int qt_34), (r0, 16, 30, .int pe)]) [0, 1] rfl rfl (M1 := []) [] rfl rfl (I1 := []) [] rfl rfl).more hb_395)
                  clear hh_36 ht_39 hvm_39 hz_39 hk_39 hS_39 hb_391 hb_392 hb_393 hb_394 hb_395
                  obtain ⟨hr_40_0, hr_40_1, hr_40_2⟩ := hr_40
                  refine lv_aload_n hx hb dX14_escape_199 rfl (lv_at hl 3 rfl) ?_
                  refine lv_iload hx hb dX14_escape_200 (lv_at hl 0 rfl) ?_
                  refine va_callv (A0 := jA base) (H0 := s.heap) (va_runV (As := [.int r_35]) (rest := []) ⟨hx, hb, hml, hown, hts⟩ (uX14_unit l dC dI ca base B hB hAp hB16 hB127 G0 H_39 r0 r_35 qp_39) (cwV 1 hts (jgV (jWr_51 _ (List.mem_of_getElem? (i := 21) rfl)) (jWr_51 _ (List.mem_of_getElem? (i := 22) rfl)) (jWr_51 _ (List.mem_of_getElem? (i := 23) rfl)) (jWr_1 _ (List.mem_of_getElem? (i := 5) rfl)) (jWr_52 _ (List.mem_of_getElem? (i := 0) rfl))) rfl rfl rfl (by decide +kernel) ⟨by rw [← hR]; exact Nat.le_of_ble_eq_true rfl, by rw [← hR]; exact Nat.le_of_ble_eq_true rfl⟩) ⟨fun a U g mk q => by obtain ⟨q0, q1, q2, qK, q10, q11, q12⟩ := q; exact ⟨q0, q1, q2, jG.calling g mk a qK, q10, q11, q12⟩, hh_39.recv (C := RX14) (T := TX14) (N := 74) hB16 rfl (by decide) hg_r0 hK, fun U hU hW => ⟨rfl, hU, hh_39.2.1, hG.step hW hU hh_39.1, hg_r0, (hh_39.2.2.1.sub (L1 := [(r0, 16, 28, .int qp_39)]) [0] rfl), by first | omega | (refine ⟨?_, ?_⟩ <;> (first | omega | rfl | assumption | decide | exact Or.inl rfl | exact Or.inr rfl | (simp only; omega)))⟩⟩ rfl rfl hl.1 rfl (lv_room (Nat.le_of_ble_eq_true rfl)) dX14_escape_202 ⟨Nat.zero_le _, Nat.zero_le _⟩) hh_39.1 (fun q _ h => h) (fun q h => h) (fun u_41 t_41 H_41 locs_41 ht_41 hvm_41 hr_42 hb_41 hz_41 hk_41 hS_41 => ?_)
                  obtain ⟨qp_41, rfl⟩ : ∃ z, z = u_41 := ⟨_, rfl⟩
                  rw [ht_41] at hb_41
                  obtain ⟨hb_411, hb_412, hb_413, hb_414, hb_415⟩ := hb_41
                  have hh_41 : jSt (dC, dI) B base G0 G0 EX14_escape s.heap 0 0 [(r0, 16, 28, .int qp_41), (r0, 16, 29, .int qt_34), (r0, 16, 30, .int pe)] [] [] H_41 locs_41 := ((hh_39.call hb_411 hb_412 hb_413 hb_414 hS_41 rfl (L1 := [(r0, 16, 29, .int qt_34), (r0, 16, 30, .int pe)]) [1, 2] rfl rfl (M1 := []) [] rfl rfl (I1 := []) [] rfl rfl).more hb_415)
                  clear hh_39 ht_41 hvm_41 hz_41 hk_41 hS_41 hb_411 hb_412 hb_413 hb_414 hb_415
                  obtain ⟨hr_42_0, hr_42_1, hr_42_2⟩ := hr_42
                  rw [hQ]
                  obtain ⟨v_43, hv_43, hh_44⟩ := hh_41.pin (C := RX14) (T := TX14) (N := 74) hB16 rfl (by decide) hg_r0 (i := 31) (by decide) rfl
                  obtain ⟨bad_45, rfl, hzbad_45⟩ := hv_43
                  have hzbad_45' := jb_01 hzbad_45
                  exact W.vret hx hb hr (fun t ht hW => ⟨⟨(qt_34, qp_41, bad_45), rfl, by first | omega | (refine ⟨?_, ?_, ?_, ?_, ?_, ?_, ?_⟩ <;> (first | omega | rfl | assumption | decide | exact Or.inl rfl | exact Or.inr rfl | (simp only; omega))), hh_44.rt (M1 := [(r0, 16, 29, .int qt_34), (r0, 16, 28, .int qp_41), (r0, 16, 31, .int bad_45)]) [2, 1, 0] rfl ht⟩, by rw [ht]; try exact hh_44.1.1, fun q h9 hq => by rw [ht]; try exact hh_44.1.2.1 q h9 hq⟩) hh_44.1.2.2 dX14_escape_205
                · skip
                  have c_38' : r_37.toInt = 0 := jb_ne_n (rfl) ((by decide)) c_38
                  refine lv_aload_n hx hb dX14_escape_187 rfl (lv_at hl 3 rfl) ?_
                  refine lv_iconst (v := 1) hx hb dX14_escape_188 (by decide) ?_
                  refine j7_put hx hb hown hK hh_36 hB hAp hB16 (C := RX14) (T := TX14) (N := 74) rfl (by decide) hg_r0 (i := 31) (by decide) hly_16_31 rfl hlk_288 rfl (ty := .boolean) (v := .int 1) (by decide +kernel) (jb_nz (Or.inr rfl)) (jb_fz (Or.inr rfl)) (⟨_, rfl, (Or.inr rfl)⟩) rfl (L1 := [(r0, 16, 29, .int qt_34), (r0, 16, 30, .int pe), (r0, 16, 28, .int pp)]) [0, 1, 2] rfl rfl rfl dX14_escape_189 (fun H_46 locs_46 hh_46 => ?_)
                  clear hh_36
                  rw [hQ]
                  exact W.vret hx hb hr (fun t ht hW => ⟨⟨(qt_34, pp, 1), rfl, by first | omega | (refine ⟨?_, ?_, ?_, ?_, ?_, ?_, ?_⟩ <;> (first | omega | rfl | assumption | decide | exact Or.inl rfl | exact Or.inr rfl | (simp only; omega))), hh_46.rt (M1 := [(r0, 16, 29, .int qt_34), (r0, 16, 28, .int pp), (r0, 16, 31, .int 1)]) [1, 3, 0] rfl ht⟩, by rw [ht]; try exact hh_46.1.1, fun q h9 hq => by rw [ht]; try exact hh_46.1.2.1 q h9 hq⟩) hh_46.1.2.2 dX14_escape_192
            · skip
              have c_19' : r_18.toInt = 0 := jb_ne_n (rfl) ((by decide)) c_19
              refine lv_aload_n hx hb dX14_escape_148 rfl (lv_at hl 2 rfl) ?_
              refine lv_iload hx hb dX14_escape_149 (lv_at hl 0 rfl) ?_
              refine va_callv (A0 := jA base) (H0 := s.heap) (va_runV (As := [.int r_11]) (rest := []) ⟨hx, hb, hml, hown, hts⟩ (uX14_unit l dC dI ca base B hB hAp hB16 hB127 G0 H_17 r0 r_11 pp) (cwV 1 hts (jgV (jWr_51 _ (List.mem_of_getElem? (i := 21) rfl)) (jWr_51 _ (List.mem_of_getElem? (i := 22) rfl)) (jWr_51 _ (List.mem_of_getElem? (i := 23) rfl)) (jWr_1 _ (List.mem_of_getElem? (i := 5) rfl)) (jWr_52 _ (List.mem_of_getElem? (i := 0) rfl))) rfl rfl rfl (by decide +kernel) ⟨by rw [← hR]; exact Nat.le_of_ble_eq_true rfl, by rw [← hR]; exact Nat.le_of_ble_eq_true rfl⟩) ⟨fun a U g mk q => by obtain ⟨q0, q1, q2, qK, q10, q11, q12⟩ := q; exact ⟨q0, q1, q2, jG.calling g mk a qK, q10, q11, q12⟩, hh_17.recv (C := RX14) (T := TX14) (N := 74) hB16 rfl (by decide) hg_r0 hK, fun U hU hW => ⟨rfl, hU, hh_17.2.1, hG.step hW hU hh_17.1, hg_r0, (hh_17.2.2.1.sub (L1 := [(r0, 16, 28, .int pp)]) [2] rfl), by first | omega | (refine ⟨?_, ?_⟩ <;> (first | omega | rfl | assumption | decide | exact Or.inl rfl | exact Or.inr rfl | (simp only; omega)))⟩⟩ rfl rfl hl.1 rfl (lv_room (Nat.le_of_ble_eq_true rfl)) dX14_escape_151 ⟨Nat.zero_le _, Nat.zero_le _⟩) hh_17.1 (fun q _ h => h) (fun q h => h) (fun u_47 t_47 H_47 locs_47 ht_47 hvm_47 hr_48 hb_47 hz_47 hk_47 hS_47 => ?_)
              obtain ⟨qp_47, rfl⟩ : ∃ z, z = u_47 := ⟨_, rfl⟩
              rw [ht_47] at hb_47
              obtain ⟨hb_471, hb_472, hb_473, hb_474, hb_475⟩ := hb_47
              have hh_47 : jSt (dC, dI) B base G0 G0 EX14_escape s.heap 0 0 [(r0, 16, 28, .int qp_47), (r0, 16, 29, .int qt_10), (r0, 16, 30, .int pe)] [] [] H_47 locs_47 := ((hh_17.call hb_471 hb_472 hb_473 hb_474 hS_47 rfl (L1 := [(r0, 16, 29, .int qt_10), (r0, 16, 30, .int pe)]) [0, 1] rfl rfl (M1 := []) [] rfl rfl (I1 := []) [] rfl rfl).more hb_475)
              clear hh_17 ht_47 hvm_47 hz_47 hk_47 hS_47 hb_471 hb_472 hb_473 hb_474 hb_475
              obtain ⟨hr_48_0, hr_48_1, hr_48_2⟩ := hr_48
              rw [hQ]
              obtain ⟨v_49, hv_49, hh_50⟩ := hh_47.pin (C := RX14) (T := TX14) (N := 74) hB16 rfl (by decide) hg_r0 (i := 31) (by decide) rfl
              obtain ⟨bad_51, rfl, hzbad_51⟩ := hv_49
              have hzbad_51' := jb_01 hzbad_51
              exact W.vret hx hb hr (fun t ht hW => ⟨⟨(qt_10, qp_47, bad_51), rfl, by first | omega | (refine ⟨?_, ?_, ?_, ?_, ?_, ?_, ?_⟩ <;> (first | omega | rfl | assumption | decide | exact Or.inl rfl | exact Or.inr rfl | (simp only; omega))), hh_50.rt (M1 := [(r0, 16, 29, .int qt_10), (r0, 16, 28, .int qp_47), (r0, 16, 31, .int bad_51)]) [2, 1, 0] rfl ht⟩, by rw [ht]; try exact hh_50.1.1, fun q h9 hq => by rw [ht]; try exact hh_50.1.2.1 q h9 hq⟩) hh_50.1.2.2 dX14_escape_154
          · skip
            have c_16' : r_15.toInt ≠ 0 := jb_eq_n (rfl) ((by decide)) c_16
            refine lv_aload_n hx hb dX14_escape_130 rfl (lv_at hl 2 rfl) ?_
            refine lv_iconst (v := 1) hx hb dX14_escape_131 (by decide) ?_
            refine j7_put hx hb hown hK hh_14 hB hAp hB16 (C := RX14) (T := TX14) (N := 74) rfl (by decide) hg_r0 (i := 31) (by decide) hly_16_31 rfl hlk_288 rfl (ty := .boolean) (v := .int 1) (by decide +kernel) (jb_nz (Or.inr rfl)) (jb_fz (Or.inr rfl)) (⟨_, rfl, (Or.inr rfl)⟩) rfl (L1 := [(r0, 16, 29, .int qt_10), (r0, 16, 30, .int pe), (r0, 16, 28, .int pp)]) [0, 1, 2] rfl rfl rfl dX14_escape_132 (fun H_52 locs_52 hh_52 => ?_)
            clear hh_14
            rw [hQ]
            exact W.vret hx hb hr (fun t ht hW => ⟨⟨(qt_10, pp, 1), rfl, by first | omega | (refine ⟨?_, ?_, ?_, ?_, ?_, ?_, ?_⟩ <;> (first | omega | rfl | assumption | decide | exact Or.inl rfl | exact Or.inr rfl | (simp only; omega))), hh_52.rt (M1 := [(r0, 16, 29, .int qt_10), (r0, 16, 28, .int pp), (r0, 16, 31, .int 1)]) [1, 3, 0] rfl ht⟩, by rw [ht]; try exact hh_52.1.1, fun q h9 hq => by rw [ht]; try exact hh_52.1.2.1 q h9 hq⟩) hh_52.1.2.2 dX14_escape_135
    · skip
      have c_6' : w0_5.toInt ≥ 0 := jb_lt_n (rfl) ((by decide)) c_6
      refine lv_aload_n hx hb dX14_escape_37 rfl (lv_at hl 1 rfl) ?_
      refine lv_iload_n hx hb dX14_escape_38 rfl (lv_at hl 0 rfl) ?_
      refine lv_iconst (v := 3) hx hb dX14_escape_39 (by decide) ?_
      have C93 : ∀ (w0_53 : Int32) (H_53 : Heap) (locs_53 : List Loc), jSt (dC, dI) B base G0 G0 EX14_escape s.heap 0 0 [(r0, 16, 29, .int z_3), (r0, 16, 30, .int pe), (r0, 16, 28, .int pp), (r0, 16, 31, .int pb)] [] [] H_53 locs_53 → (w0_53.toInt ≤ 255) → ∀ ls : Array Slot, lv_has ls 6 [(0, .ref r0), (1, .int r_2), (2, .ref str337), (3, .int w0_5)] → W p l e R s m ([.ref r0] : List Value).toArray below meth c H_53 locs_53 0 0 Q (F0 m 93 ls [.int w0_53, .ref r0]) := by
        intro w0_53 H_53 locs_53 hh_53  hi_53 ls hl
        refine va_callv (A0 := jA base) (H0 := s.heap) (va_runV (As := [.int w0_53]) (rest := []) ⟨hx, hb, hml, hown, hts⟩ (uX14_unit l dC dI ca base B hB hAp hB16 hB127 G0 H_53 r0 w0_53 pp) (cwV 1 hts (jgV (jWr_51 _ (List.mem_of_getElem? (i := 21) rfl)) (jWr_51 _ (List.mem_of_getElem? (i := 22) rfl)) (jWr_51 _ (List.mem_of_getElem? (i := 23) rfl)) (jWr_1 _ (List.mem_of_getElem? (i := 5) rfl)) (jWr_52 _ (List.mem_of_getElem? (i := 0) rfl))) rfl rfl rfl (by decide +kernel) ⟨by rw [← hR]; exact Nat.le_of_ble_eq_true rfl, by rw [← hR]; exact Nat.le_of_ble_eq_true rfl⟩) ⟨fun a U g mk q => by obtain ⟨q0, q1, q2, qK, q10, q11, q12⟩ := q; exact ⟨q0, q1, q2, jG.calling g mk a qK, q10, q11, q12⟩, hh_53.recv (C := RX14) (T := TX14) (N := 74) hB16 rfl (by decide) hg_r0 hK, fun U hU hW => ⟨rfl, hU, hh_53.2.1, hG.step hW hU hh_53.1, hg_r0, (hh_53.2.2.1.sub (L1 := [(r0, 16, 28, .int pp)]) [2] rfl), by first | omega | (refine ⟨?_, ?_⟩ <;> (first | omega | rfl | assumption | decide | exact Or.inl rfl | exact Or.inr rfl | (simp only; omega)))⟩⟩ rfl rfl hl.1 rfl (lv_room (Nat.le_of_ble_eq_true rfl)) dX14_escape_93 ⟨Nat.zero_le _, Nat.zero_le _⟩) hh_53.1 (fun q _ h => h) (fun q h => h) (fun u_54 t_54 H_54 locs_54 ht_54 hvm_54 hr_55 hb_54 hz_54 hk_54 hS_54 => ?_)
        obtain ⟨qp_54, rfl⟩ : ∃ z, z = u_54 := ⟨_, rfl⟩
        rw [ht_54] at hb_54
        obtain ⟨hb_541, hb_542, hb_543, hb_544, hb_545⟩ := hb_54
        have hh_54 : jSt (dC, dI) B base G0 G0 EX14_escape s.heap 0 0 [(r0, 16, 28, .int qp_54), (r0, 16, 29, .int z_3), (r0, 16, 30, .int pe), (r0, 16, 31, .int pb)] [] [] H_54 locs_54 := ((hh_53.call hb_541 hb_542 hb_543 hb_544 hS_54 rfl (L1 := [(r0, 16, 29, .int z_3), (r0, 16, 30, .int pe), (r0, 16, 31, .int pb)]) [0, 1, 3] rfl rfl (M1 := []) [] rfl rfl (I1 := []) [] rfl rfl).more hb_545)
        clear hh_53 ht_54 hvm_54 hz_54 hk_54 hS_54 hb_541 hb_542 hb_543 hb_544 hb_545
        obtain ⟨hr_55_0, hr_55_1, hr_55_2⟩ := hr_55
        rw [hQ]
        exact W.vret hx hb hr (fun t ht hW => ⟨⟨(z_3, qp_54, pb), rfl, by first | omega | (refine ⟨?_, ?_, ?_, ?_, ?_, ?_, ?_⟩ <;> (first | omega | rfl | assumption | decide | exact Or.inl rfl | exact Or.inr rfl | (simp only; omega))), hh_54.rt (M1 := [(r0, 16, 29, .int z_3), (r0, 16, 28, .int qp_54), (r0, 16, 31, .int pb)]) [1, 0, 3] rfl ht⟩, by rw [ht]; try exact hh_54.1.1, fun q h9 hq => by rw [ht]; try exact hh_54.1.2.1 q h9 hq⟩) hh_54.1.2.2 dX14_escape_96
      refine lv_icmp_ge (tgt := 47) hx hb dX14_escape_40 (by decide) (fun c_56 => ?_) (fun c_56 => ?_)
      · skip
        have c_56' : w0_5.toInt ≥ 3 := jb_ge (rfl) ((by decide)) c_56
        refine lv_iload_n hx hb dX14_escape_47 rfl (lv_at hl 2 rfl) ?_
        refine lv_bipush (v := 98) hx hb dX14_escape_48 (by decide) ?_
        refine lv_icmp_ne (tgt := 58) hx hb dX14_escape_50 (by decide) (fun c_57 => ?_) (fun c_57 => ?_)
        · skip
          have c_57' : r_2.toInt ≠ 98 := jb_ne (rfl) ((by decide)) c_57
          refine lv_iload_n hx hb dX14_escape_58 rfl (lv_at hl 2 rfl) ?_
          refine lv_bipush (v := 102) hx hb dX14_escape_59 (by decide) ?_
          refine lv_icmp_ne (tgt := 69) hx hb dX14_escape_61 (by decide) (fun c_58 => ?_) (fun c_58 => ?_)
          · skip
            have c_58' : r_2.toInt ≠ 102 := jb_ne (rfl) ((by decide)) c_58
            refine lv_iload_n hx hb dX14_escape_69 rfl (lv_at hl 2 rfl) ?_
            refine lv_bipush (v := 110) hx hb dX14_escape_70 (by decide) ?_
            refine lv_icmp_ne (tgt := 80) hx hb dX14_escape_72 (by decide) (fun c_59 => ?_) (fun c_59 => ?_)
            · skip
              have c_59' : r_2.toInt ≠ 110 := jb_ne (rfl) ((by decide)) c_59
              refine lv_iload_n hx hb dX14_escape_80 rfl (lv_at hl 2 rfl) ?_
              refine lv_bipush (v := 114) hx hb dX14_escape_81 (by decide) ?_
              refine lv_icmp_ne (tgt := 91) hx hb dX14_escape_83 (by decide) (fun c_60 => ?_) (fun c_60 => ?_)
              · skip
                have c_60' : r_2.toInt ≠ 114 := jb_ne (rfl) ((by decide)) c_60
                refine lv_bipush (v := 9) hx hb dX14_escape_91 (by decide) ?_
                exact C93 9 _ _ hh_5 (by first | omega | rfl | assumption | decide | exact Or.inl rfl | exact Or.inr rfl | (simp only; omega)) _ (lv_sub hl [1, 2, 3, 0] rfl)
              · skip
                have c_60' : r_2.toInt = 114 := jb_ne_n (rfl) ((by decide)) c_60
                refine lv_bipush (v := 13) hx hb dX14_escape_86 (by decide) ?_
                refine lv_goto (tgt := 93) hx hb dX14_escape_88 (by decide) ?_
                exact C93 13 _ _ hh_5 (by first | omega | rfl | assumption | decide | exact Or.inl rfl | exact Or.inr rfl | (simp only; omega)) _ (lv_sub hl [1, 2, 3, 0] rfl)
            · skip
              have c_59' : r_2.toInt = 110 := jb_ne_n (rfl) ((by decide)) c_59
              refine lv_bipush (v := 10) hx hb dX14_escape_75 (by decide) ?_
              refine lv_goto (tgt := 93) hx hb dX14_escape_77 (by decide) ?_
              exact C93 10 _ _ hh_5 (by first | omega | rfl | assumption | decide | exact Or.inl rfl | exact Or.inr rfl | (simp only; omega)) _ (lv_sub hl [1, 2, 3, 0] rfl)
          · skip
            have c_58' : r_2.toInt = 102 := jb_ne_n (rfl) ((by decide)) c_58
            refine lv_bipush (v := 12) hx hb dX14_escape_64 (by decide) ?_
            refine lv_goto (tgt := 93) hx hb dX14_escape_66 (by decide) ?_
            exact C93 12 _ _ hh_5 (by first | omega | rfl | assumption | decide | exact Or.inl rfl | exact Or.inr rfl | (simp only; omega)) _ (lv_sub hl [1, 2, 3, 0] rfl)
        · skip
          have c_57' : r_2.toInt = 98 := jb_ne_n (rfl) ((by decide)) c_57
          refine lv_bipush (v := 8) hx hb dX14_escape_53 (by decide) ?_
          refine lv_goto (tgt := 93) hx hb dX14_escape_55 (by decide) ?_
          exact C93 8 _ _ hh_5 (by first | omega | rfl | assumption | decide | exact Or.inl rfl | exact Or.inr rfl | (simp only; omega)) _ (lv_sub hl [1, 2, 3, 0] rfl)
      · skip
        have c_56' : w0_5.toInt < 3 := jb_ge_n (rfl) ((by decide)) c_56
        refine lv_iload_n hx hb dX14_escape_43 rfl (lv_at hl 2 rfl) ?_
        refine lv_goto (tgt := 93) hx hb dX14_escape_44 (by decide) ?_
        exact C93 r_2 _ _ hh_5 (by first | omega | rfl | assumption | decide | exact Or.inl rfl | exact Or.inr rfl | (simp only; omega)) _ (lv_sub hl [1, 2, 3, 0] rfl)
  refine lv_if_ge (tgt := 27) hx hb dX14_escape_20 (by decide) (fun c_61 => ?_) (fun c_61 => ?_)
  · skip
    have c_61' : r_2.toInt ≥ 0 := jb_ge (rfl) ((by decide)) c_61
    first | (have hr_2_2q := hr_2_2.resolve_left (by omega); clear hr_2_2) | (have hr_2_2q := hr_2_2.resolve_right (by omega); clear hr_2_2) | skip
    refine lv_aload_n hx hb dX14_escape_27 rfl (lv_at hl 0 rfl) ?_
    refine lv_iload_n hx hb dX14_escape_28 rfl (lv_at hl 1 rfl) ?_
    refine vp_callSi (W.runV (As := [.int r_2]) (rest := []) ⟨hx, hb, hml, hown, hts⟩ (wJ0_indexOf_0f7a4 l dC dI ca base H_4 str337 8 r_2) (cwV 1 hts (jgV (jWr_51 _ (List.mem_of_getElem? (i := 20) rfl)) (jWr_37 _ (List.mem_of_getElem? (i := 12) rfl)) (jWr_37 _ (List.mem_of_getElem? (i := 13) rfl)) (jWr_5 _ (List.mem_of_getElem? (i := 15) rfl)) (jWr_37 _ (List.mem_of_getElem? (i := 14) rfl))) rfl rfl rfl (by decide +kernel) ⟨by rw [← hR]; exact Nat.le_of_ble_eq_true rfl, by rw [← hR]; exact Nat.le_of_ble_eq_true rfl⟩) ⟨fun a U g mk q => by obtain ⟨q0, q1, q2, qK, q9⟩ := q; exact ⟨q0, q1, (q2.moved (Vm.Alike.refl U.vm)), jG.calling g mk a qK, q9⟩, jStr_recv hstr337 hh_4.1, fun U hU hW => ⟨rfl, hU, (hstr337.moved hW.alike).kept hh_4.1.2.1, hG.step hW hU hh_4.1, by omega⟩⟩ rfl rfl hl.1 rfl (lv_room (Nat.le_of_ble_eq_true rfl)) dX14_escape_29 ⟨Nat.zero_le _, Nat.zero_le _⟩) (fun r_62 hr_62 => ?_)
    exact C32 r_62 _ _ hh_4 (by first | omega | (refine ⟨?_, ?_, ?_⟩ <;> (first | omega | rfl | assumption | decide | exact Or.inl rfl | exact Or.inr rfl | (simp only; omega)))) _ (lv_sub hl [2, 1, 0] rfl)
  · skip
    have c_61' : r_2.toInt < 0 := jb_ge_n (rfl) ((by decide)) c_61
    first | (have hr_2_2q := hr_2_2.resolve_left (by omega); clear hr_2_2) | (have hr_2_2q := hr_2_2.resolve_right (by omega); clear hr_2_2) | skip
    refine lv_iconst (v := (-1)) hx hb dX14_escape_23 (by decide) ?_
    refine lv_goto (tgt := 32) hx hb dX14_escape_24 (by decide) ?_
    exact C32 (-1) _ _ hh_4 (by first | omega | (refine ⟨?_, ?_, ?_⟩ <;> (first | omega | rfl | assumption | decide | exact Or.inl rfl | exact Or.inr rfl | (simp only; omega)))) _ (lv_sub hl [2, 1, 0] rfl)
set_option maxHeartbeats 4000000 in
set_option maxRecDepth 20000 in
theorem uX14_readString (l : Launch) (dC : Nat → ClassId) (dI : Nat → Nat → Nat) (ca : Nat → ClassId) (base : Nat) (B : jF) (hB : jBok B) (hAp : jAp (dC, dI)) (hB16 : ∀ n G a H, B 16 n G a H ↔ jOb (dC, dI) 16 74 (F16 n G) a H) (hB110 : ∀ n G a H, B 110 n G a H ↔ jAr (dC, dI) (ca 1) (fun j z => 0 ≤ z.toInt ∧ z.toInt ≤ 255) n a H) (hB127 : ∀ n G a H, B 127 n G a H ↔ jAr (dC, dI) (ca 1) (fun j z => True) n a H) (G0 : jT) (H0 : Heap) (r0 : Nat) (pt : Int32) (pe : Int32) (pp : Int32) (pb : Int32) : Met l yX14_readString (jw yX14_readString cX14_readString 4 none) ({ frames := 6, cells := 0, slots := 0, locals := 206 }) (va_Pc [.ref r0] (fun U => U.heap = H0 ∧ jX B base G0 [] H0 ∧ jG dC dI ca base U ∧ G0 r0 = some (16, 0) ∧ jP (dC, dI) G0 H0 [(r0, 16, 29, .int pt), (r0, 16, 30, .int pe), (r0, 16, 28, .int pp), (r0, 16, 31, .int pb)] ∧ 0 ≤ pt.toInt ∧ pt.toInt ≤ 90000 ∧ 0 ≤ pe.toInt ∧ pe.toInt ≤ 3000 ∧ pt.toInt < pe.toInt ∧ 0 ≤ pp.toInt ∧ pp.toInt ≤ pt.toInt ∧ pb.toInt = 0)) (va_Qv (S := Int32 × Int32 × Int32 × Int32) (fun u => 0 ≤ u.2.2.1.toInt ∧ u.2.2.1.toInt ≤ 1 ∧ pt.toInt + 1 ≤ u.1.toInt ∧ pp.toInt ≤ u.2.1.toInt ∧ u.2.1.toInt ≤ u.1.toInt ∧ u.2.2.2.toInt = pp.toInt ∧ u.1.toInt ≤ pe.toInt + 2 * u.2.2.1.toInt) (fun u t => jRt (dC, dI) B base G0 EX14_readString H0 [(r0, 16, 29, .int u.1), (r0, 16, 28, .int u.2.1), (r0, 16, 31, .int u.2.2.1), (r0, 16, 32, .int u.2.2.2)] t.heap) (jA base)) 0 0 (jA base) := by
  refine Met.ofW (cc := cX14_readString) (maxL := 4) (ret := none) (by decide) rfl ?_
  intro p e s m args below meth c s₁ Bd hml hv
  obtain ⟨rfl, hH0, hX, hG, hg_r0, hP0, hp0, hp1, hp2, hp3, hp4, hp5, hp6, hp7⟩ := hv
  have hK := hG.1
  have hx := Bd.exec
  have hb := Bd.bytes
  have hr := Bd.returns
  have hts := atoms_spec (ws := (jw yX14_readString cX14_readString 4 none)) Bd.pre
  have htw : ∀ w ∈ jWl, w.before _ s = true := fun w h => hts w (List.mem_cons_of_mem _ h)
  have hown : s.vm.findClass RX14 = some m.cls := findClass_of_methodNamed Bd.named
  have hlocks := Bd.notSynchronized
  obtain ⟨Q, hQ⟩ : ∃ Q, Q = MQ below (va_Qv (S := Int32 × Int32 × Int32 × Int32) (fun u => 0 ≤ u.2.2.1.toInt ∧ u.2.2.1.toInt ≤ 1 ∧ pt.toInt + 1 ≤ u.1.toInt ∧ pp.toInt ≤ u.2.1.toInt ∧ u.2.1.toInt ≤ u.1.toInt ∧ u.2.2.2.toInt = pp.toInt ∧ u.1.toInt ≤ pe.toInt + 2 * u.2.2.1.toInt) (fun u t => jRt (dC, dI) B base G0 EX14_readString H0 [(r0, 16, 29, .int u.1), (r0, 16, 28, .int u.2.1), (r0, 16, 31, .int u.2.2.1), (r0, 16, 32, .int u.2.2.2)] t.heap) (jA base)) ([.ref r0] : List Value).toArray s 0 0 (jA base) := ⟨_, rfl⟩
  rw [← hQ]
  have hl := lv_entry ([.ref r0]) (n := 4) (Nat.le_of_ble_eq_true rfl)
  rw [lg_entry_eq]
  generalize (lg_sl ([.ref r0]) ++ List.replicate (4 - (lg_sl ([.ref r0])).length) Slot.unset).toArray = ls at hl ⊢
  have hl : lv_has ls 4 [(0, .ref r0)] := hl
  generalize hR : (headSpec (jw yX14_readString cX14_readString 4 none) ({ frames := 6, cells := 0, slots := 0, locals := 206 })).room = R
  subst hH0
  have hh : jSt (dC, dI) B base G0 G0 EX14_readString s.heap 0 0 [(r0, 16, 29, .int pt), (r0, 16, 30, .int pe), (r0, 16, 28, .int pp), (r0, 16, 31, .int pb)] [] [] s.heap [] := jSt.start hX hP0 jMc.nil jIs.nil
  clear hX hP0
  have hk0 : (0 : Int32).toInt = 0 := by decide
  have hk1 : (1 : Int32).toInt = 1 := by decide
  have hk32 : (32 : Int32).toInt = 32 := by decide
  have hk34 : (34 : Int32).toInt = 34 := by decide
  have hk92 : (92 : Int32).toInt = 92 := by decide
  have hly_16_9 := htw (u_lay RX14 TX14 9) (jWc_wsX140 _ (u_in_lay (by decide)))
  have hly_16_28 := htw (u_lay RX14 TX14 28) (jWc_wsX140 _ (u_in_lay (by decide)))
  have hly_16_29 := htw (u_lay RX14 TX14 29) (jWc_wsX140 _ (u_in_lay (by decide)))
  have hly_16_30 := htw (u_lay RX14 TX14 30) (jWc_wsX140 _ (u_in_lay (by decide)))
  have hly_16_31 := htw (u_lay RX14 TX14 31) (jWc_wsX140 _ (u_in_lay (by decide)))
  have hly_16_32 := htw (u_lay RX14 TX14 32) (jWc_wsX140 _ (u_in_lay (by decide)))
  have hly_16_33 := htw (u_lay RX14 TX14 33) (jWc_wsX140 _ (u_in_lay (by decide)))
  have hlk_273 := (htw (.fieldLink RX14 273 "ProofServerModel" "at" "I") (jWr_50 _ (List.mem_of_getElem? (i := 5) rfl)))
  have hlk_304 := (htw (.fieldLink RX14 304 "ProofServerModel" "pooled" "I") (jWr_50 _ (List.mem_of_getElem? (i := 8) rfl)))
  have hlk_288 := (htw (.fieldLink RX14 288 "ProofServerModel" "bad" "Z") (jWr_50 _ (List.mem_of_getElem? (i := 9) rfl)))
  have hlk_20 := (htw (.fieldLink RX14 20 "ProofServerModel" "kept" "[I") (jWr_10 _ (List.mem_of_getElem? (i := 21) rfl)))
  have hlk_276 := (htw (.fieldLink RX14 276 "ProofServerModel" "end" "I") (jWr_50 _ (List.mem_of_getElem? (i := 6) rfl)))
  have hlk_357 := (htw (.fieldLink RX14 357 "ProofServerModel" "utfChar" "I") (jWr_51 _ (List.mem_of_getElem? (i := 11) rfl)))
  have hlk_301 := (htw (.fieldLink RX14 301 "ProofServerModel" "stringFrom" "I") (jWr_50 _ (List.mem_of_getElem? (i := 15) rfl)))
  refine lv_aload_n hx hb dX14_readString_0 rfl (lv_at hl 0 rfl) ?_
  refine lv_dup hx hb dX14_readString_1 rfl ?_
  refine j7_read hx hb hown hK (C := RX14) (T := TX14) (N := 74) rfl hly_16_29 hlk_273 (hh.at 0 rfl) dX14_readString_2 ?_
  refine lv_iconst (v := 1) hx hb dX14_readString_5 (by decide) ?_
  refine lv_iadd hx hb dX14_readString_6 ?_
  refine lv_topi (fun z_1 ez_1 => ?_)
  have hz_1 : z_1.toInt = pt.toInt + 1 := by rw [ez_1]; exact jb_iadd2 (rfl) ((by decide)) (by omega)
  refine j7_put hx hb hown hK hh hB hAp hB16 (C := RX14) (T := TX14) (N := 74) rfl (by decide) hg_r0 (i := 29) (by decide) hly_16_29 rfl hlk_273 rfl (ty := .int) (v := .int z_1) (by decide +kernel) rfl rfl (⟨_, rfl, by omega, by omega⟩) rfl (L1 := [(r0, 16, 30, .int pe), (r0, 16, 28, .int pp), (r0, 16, 31, .int pb)]) [1, 2, 3] rfl rfl rfl dX14_readString_7 (fun H_2 locs_2 hh_2 => ?_)
  clear hh
  refine lv_aload_n hx hb dX14_readString_10 rfl (lv_at hl 0 rfl) ?_
  refine j7_read hx hb hown hK (C := RX14) (T := TX14) (N := 74) rfl hly_16_28 hlk_304 (hh_2.at 2 rfl) dX14_readString_11 ?_
  refine lv_istore_n (lv' := [(1, .int pp), (0, .ref r0)]) hx hb dX14_readString_14 rfl hl (by decide) rfl (fun ls hl => ?_)
  have L15 : ∀ (N : Nat) (wt_3 : Int32) (wp_3 : Int32) (wb_3 : Int32) (H_3 : Heap) (locs_3 : List Loc), jSt (dC, dI) B base G0 G0 EX14_readString s.heap 0 0 [(r0, 16, 29, .int wt_3), (r0, 16, 28, .int wp_3), (r0, 16, 31, .int wb_3), (r0, 16, 30, .int pe)] [] [] H_3 locs_3 → (pt.toInt + 1 ≤ wt_3.toInt ∧ pp.toInt ≤ wp_3.toInt ∧ wp_3.toInt ≤ wt_3.toInt ∧ 0 ≤ wb_3.toInt ∧ wb_3.toInt ≤ 1 ∧ wt_3.toInt ≤ pe.toInt + wb_3.toInt) → (((pe.toInt - wt_3.toInt).toNat : Int) + (1 - wb_3.toInt) : Int) < N → ∀ ls : Array Slot, lv_has ls 4 [(0, .ref r0), (1, .int pp)] → W p l e R s m ([.ref r0] : List Value).toArray below meth c H_3 locs_3 0 0 Q (F0 m 15 ls []) := by
    intro N
    induction N with
    | zero => intro wt_3 wp_3 wb_3 H_3 locs_3 hh_3  hi_3 hm; exact absurd hm (by omega)
    | succ N L15 =>
      intro wt_3 wp_3 wb_3 H_3 locs_3 hh_3  hi_3 hm_3 ls hl
      obtain ⟨hi_3_0, hi_3_1, hi_3_2, hi_3_3, hi_3_4, hi_3_5⟩ := hi_3
      refine lv_aload_n hx hb dX14_readString_15 rfl (lv_at hl 0 rfl) ?_
      refine j7_read hx hb hown hK (C := RX14) (T := TX14) (N := 74) rfl hly_16_31 hlk_288 (hh_3.at 2 rfl) dX14_readString_16 ?_
      refine lv_if_ne (tgt := 123) hx hb dX14_readString_19 (by decide) (fun c_4 => ?_) (fun c_4 => ?_)
      · skip
        have c_4' : wb_3.toInt ≠ 0 := jb_ne (rfl) ((by decide)) c_4
        refine lv_aload_n hx hb dX14_readString_123 rfl (lv_at hl 0 rfl) ?_
        refine lv_dup hx hb dX14_readString_124 rfl ?_
        refine j7_read hx hb hown hK (C := RX14) (T := TX14) (N := 74) rfl hly_16_29 hlk_273 (hh_3.at 0 rfl) dX14_readString_125 ?_
        refine lv_iconst (v := 1) hx hb dX14_readString_128 (by decide) ?_
        refine lv_iadd hx hb dX14_readString_129 ?_
        refine lv_topi (fun z_5 ez_5 => ?_)
        have hz_5 : z_5.toInt = wt_3.toInt + 1 := by rw [ez_5]; exact jb_iadd2 (rfl) ((by decide)) (by omega)
        refine j7_put hx hb hown hK hh_3 hB hAp hB16 (C := RX14) (T := TX14) (N := 74) rfl (by decide) hg_r0 (i := 29) (by decide) hly_16_29 rfl hlk_273 rfl (ty := .int) (v := .int z_5) (by decide +kernel) rfl rfl (⟨_, rfl, by omega, by omega⟩) rfl (L1 := [(r0, 16, 28, .int wp_3), (r0, 16, 31, .int wb_3), (r0, 16, 30, .int pe)]) [1, 2, 3] rfl rfl rfl dX14_readString_130 (fun H_6 locs_6 hh_6 => ?_)
        clear hh_3
        refine lv_aload_n hx hb dX14_readString_133 rfl (lv_at hl 0 rfl) ?_
        refine lv_iload_n hx hb dX14_readString_134 rfl (lv_at hl 1 rfl) ?_
        refine j7_put hx hb hown hK hh_6 hB hAp hB16 (C := RX14) (T := TX14) (N := 74) rfl (by decide) hg_r0 (i := 32) (by decide) hly_16_32 rfl hlk_301 rfl (ty := .int) (v := .int pp) (by decide +kernel) rfl rfl (⟨_, rfl, by omega, by omega⟩) rfl (L1 := [(r0, 16, 29, .int z_5), (r0, 16, 28, .int wp_3), (r0, 16, 31, .int wb_3), (r0, 16, 30, .int pe)]) [0, 1, 2, 3] rfl rfl rfl dX14_readString_135 (fun H_7 locs_7 hh_7 => ?_)
        clear hh_6
        rw [hQ]
        exact W.vret hx hb hr (fun t ht hW => ⟨⟨(z_5, wp_3, wb_3, pp), rfl, by first | omega | (refine ⟨?_, ?_, ?_, ?_, ?_, ?_, ?_⟩ <;> (first | omega | rfl | assumption | decide | exact Or.inl rfl | exact Or.inr rfl | (simp only; omega))), hh_7.rt (M1 := [(r0, 16, 29, .int z_5), (r0, 16, 28, .int wp_3), (r0, 16, 31, .int wb_3), (r0, 16, 32, .int pp)]) [1, 2, 3, 0] rfl ht⟩, by rw [ht]; try exact hh_7.1.1, fun q h9 hq => by rw [ht]; try exact hh_7.1.2.1 q h9 hq⟩) hh_7.1.2.2 dX14_readString_138
      · skip
        have c_4' : wb_3.toInt = 0 := jb_ne_n (rfl) ((by decide)) c_4
        refine lv_aload_n hx hb dX14_readString_22 rfl (lv_at hl 0 rfl) ?_
        refine va_calli (A0 := jA base) (H0 := s.heap) (va_runV (As := []) (rest := []) ⟨hx, hb, hml, hown, hts⟩ (uX14_here l dC dI ca base B hB hAp hB16 hB110 G0 H_3 r0 wt_3 pe) (cwV 0 hts (jgV (jWr_50 _ (List.mem_of_getElem? (i := 20) rfl)) (jWr_50 _ (List.mem_of_getElem? (i := 21) rfl)) (jWr_50 _ (List.mem_of_getElem? (i := 22) rfl)) (jWr_1 _ (List.mem_of_getElem? (i := 5) rfl)) (jWr_50 _ (List.mem_of_getElem? (i := 23) rfl))) rfl rfl rfl (by decide +kernel) ⟨by rw [← hR]; exact Nat.le_of_ble_eq_true rfl, by rw [← hR]; exact Nat.le_of_ble_eq_true rfl⟩) ⟨fun a U g mk q => by obtain ⟨q0, q1, q2, qK, q10, q11, q12⟩ := q; exact ⟨q0, q1, q2, jG.calling g mk a qK, q10, q11, q12⟩, hh_3.recv (C := RX14) (T := TX14) (N := 74) hB16 rfl (by decide) hg_r0 hK, fun U hU hW => ⟨rfl, hU, hh_3.2.1, hG.step hW hU hh_3.1, hg_r0, (hh_3.2.2.1.sub (L1 := [(r0, 16, 29, .int wt_3), (r0, 16, 30, .int pe)]) [0, 3] rfl), by first | omega | (refine ⟨?_, ?_, ?_, ?_⟩ <;> (first | omega | rfl | assumption | decide | exact Or.inl rfl | exact Or.inr rfl | (simp only; omega)))⟩⟩ rfl rfl hl.1 rfl (lv_room (Nat.le_of_ble_eq_true rfl)) dX14_readString_23 ⟨Nat.zero_le _, Nat.zero_le _⟩) hh_3.1 (fun q _ h => h) (fun q h => h) (fun r_9 u_8 t_8 H_8 locs_8 ht_8 hvm_8 hr_9 hb_8 hz_8 hk_8 hS_8 => ?_)
        rw [ht_8] at hb_8
        obtain ⟨hb_81, hb_82, hb_83, hb_84, hb_85⟩ := hb_8
        have hh_8 : jSt (dC, dI) B base G0 G0 EX14_readString s.heap 0 0 [(r0, 16, 29, .int wt_3), (r0, 16, 28, .int wp_3), (r0, 16, 31, .int wb_3), (r0, 16, 30, .int pe)] [] [] H_8 locs_8 := ((hh_3.call hb_81 hb_82 hb_83 hb_84 hS_8 rfl (L1 := [(r0, 16, 29, .int wt_3), (r0, 16, 28, .int wp_3), (r0, 16, 31, .int wb_3), (r0, 16, 30, .int pe)]) [0, 1, 2, 3] rfl rfl (M1 := []) [] rfl rfl (I1 := []) [] rfl rfl).more hb_85)
        clear hh_3 ht_8 hvm_8 hz_8 hk_8 hS_8 hb_81 hb_82 hb_83 hb_84 hb_85
        obtain ⟨hr_9_0, hr_9_1, hr_9_2⟩ := hr_9
        refine lv_bipush (v := 34) hx hb dX14_readString_26 (by decide) ?_
        refine lv_icmp_eq (tgt := 123) hx hb dX14_readString_28 (by decide) (fun c_10 => ?_) (fun c_10 => ?_)
        · skip
          have c_10' : r_9.toInt = 34 := jb_eq (rfl) ((by decide)) c_10
          first | (have hr_9_2q := hr_9_2.resolve_left (by omega); clear hr_9_2) | (have hr_9_2q := hr_9_2.resolve_right (by omega); clear hr_9_2) | try clear hr_9_2
          refine lv_aload_n hx hb dX14_readString_123 rfl (lv_at hl 0 rfl) ?_
          refine lv_dup hx hb dX14_readString_124 rfl ?_
          refine j7_read hx hb hown hK (C := RX14) (T := TX14) (N := 74) rfl hly_16_29 hlk_273 (hh_8.at 0 rfl) dX14_readString_125 ?_
          refine lv_iconst (v := 1) hx hb dX14_readString_128 (by decide) ?_
          refine lv_iadd hx hb dX14_readString_129 ?_
          refine lv_topi (fun z_11 ez_11 => ?_)
          have hz_11 : z_11.toInt = wt_3.toInt + 1 := by rw [ez_11]; exact jb_iadd2 (rfl) ((by decide)) (by omega)
          refine j7_put hx hb hown hK hh_8 hB hAp hB16 (C := RX14) (T := TX14) (N := 74) rfl (by decide) hg_r0 (i := 29) (by decide) hly_16_29 rfl hlk_273 rfl (ty := .int) (v := .int z_11) (by decide +kernel) rfl rfl (⟨_, rfl, by omega, by omega⟩) rfl (L1 := [(r0, 16, 28, .int wp_3), (r0, 16, 31, .int wb_3), (r0, 16, 30, .int pe)]) [1, 2, 3] rfl rfl rfl dX14_readString_130 (fun H_12 locs_12 hh_12 => ?_)
          clear hh_8
          refine lv_aload_n hx hb dX14_readString_133 rfl (lv_at hl 0 rfl) ?_
          refine lv_iload_n hx hb dX14_readString_134 rfl (lv_at hl 1 rfl) ?_
          refine j7_put hx hb hown hK hh_12 hB hAp hB16 (C := RX14) (T := TX14) (N := 74) rfl (by decide) hg_r0 (i := 32) (by decide) hly_16_32 rfl hlk_301 rfl (ty := .int) (v := .int pp) (by decide +kernel) rfl rfl (⟨_, rfl, by omega, by omega⟩) rfl (L1 := [(r0, 16, 29, .int z_11), (r0, 16, 28, .int wp_3), (r0, 16, 31, .int wb_3), (r0, 16, 30, .int pe)]) [0, 1, 2, 3] rfl rfl rfl dX14_readString_135 (fun H_13 locs_13 hh_13 => ?_)
          clear hh_12
          rw [hQ]
          exact W.vret hx hb hr (fun t ht hW => ⟨⟨(z_11, wp_3, wb_3, pp), rfl, by first | omega | (refine ⟨?_, ?_, ?_, ?_, ?_, ?_, ?_⟩ <;> (first | omega | rfl | assumption | decide | exact Or.inl rfl | exact Or.inr rfl | (simp only; omega))), hh_13.rt (M1 := [(r0, 16, 29, .int z_11), (r0, 16, 28, .int wp_3), (r0, 16, 31, .int wb_3), (r0, 16, 32, .int pp)]) [1, 2, 3, 0] rfl ht⟩, by rw [ht]; try exact hh_13.1.1, fun q h9 hq => by rw [ht]; try exact hh_13.1.2.1 q h9 hq⟩) hh_13.1.2.2 dX14_readString_138
        · skip
          have c_10' : r_9.toInt ≠ 34 := jb_eq_n (rfl) ((by decide)) c_10
          try clear hr_9_2
          refine lv_aload_n hx hb dX14_readString_31 rfl (lv_at hl 0 rfl) ?_
          refine va_calli (A0 := jA base) (H0 := s.heap) (va_runV (As := []) (rest := []) ⟨hx, hb, hml, hown, hts⟩ (uX14_here l dC dI ca base B hB hAp hB16 hB110 G0 H_8 r0 wt_3 pe) (cwV 0 hts (jgV (jWr_50 _ (List.mem_of_getElem? (i := 20) rfl)) (jWr_50 _ (List.mem_of_getElem? (i := 21) rfl)) (jWr_50 _ (List.mem_of_getElem? (i := 22) rfl)) (jWr_1 _ (List.mem_of_getElem? (i := 5) rfl)) (jWr_50 _ (List.mem_of_getElem? (i := 23) rfl))) rfl rfl rfl (by decide +kernel) ⟨by rw [← hR]; exact Nat.le_of_ble_eq_true rfl, by rw [← hR]; exact Nat.le_of_ble_eq_true rfl⟩) ⟨fun a U g mk q => by obtain ⟨q0, q1, q2, qK, q10, q11, q12⟩ := q; exact ⟨q0, q1, q2, jG.calling g mk a qK, q10, q11, q12⟩, hh_8.recv (C := RX14) (T := TX14) (N := 74) hB16 rfl (by decide) hg_r0 hK, fun U hU hW => ⟨rfl, hU, hh_8.2.1, hG.step hW hU hh_8.1, hg_r0, (hh_8.2.2.1.sub (L1 := [(r0, 16, 29, .int wt_3), (r0, 16, 30, .int pe)]) [0, 3] rfl), by first | omega | (refine ⟨?_, ?_, ?_, ?_⟩ <;> (first | omega | rfl | assumption | decide | exact Or.inl rfl | exact Or.inr rfl | (simp only; omega)))⟩⟩ rfl rfl hl.1 rfl (lv_room (Nat.le_of_ble_eq_true rfl)) dX14_readString_32 ⟨Nat.zero_le _, Nat.zero_le _⟩) hh_8.1 (fun q _ h => h) (fun q h => h) (fun r_15 u_14 t_14 H_14 locs_14 ht_14 hvm_14 hr_15 hb_14 hz_14 hk_14 hS_14 => ?_)
          rw [ht_14] at hb_14
          obtain ⟨hb_141, hb_142, hb_143, hb_144, hb_145⟩ := hb_14
          have hh_14 : jSt (dC, dI) B base G0 G0 EX14_readString s.heap 0 0 [(r0, 16, 29, .int wt_3), (r0, 16, 28, .int wp_3), (r0, 16, 31, .int wb_3), (r0, 16, 30, .int pe)] [] [] H_14 locs_14 := ((hh_8.call hb_141 hb_142 hb_143 hb_144 hS_14 rfl (L1 := [(r0, 16, 29, .int wt_3), (r0, 16, 28, .int wp_3), (r0, 16, 31, .int wb_3), (r0, 16, 30, .int pe)]) [0, 1, 2, 3] rfl rfl (M1 := []) [] rfl rfl (I1 := []) [] rfl rfl).more hb_145)
          clear hh_8 ht_14 hvm_14 hz_14 hk_14 hS_14 hb_141 hb_142 hb_143 hb_144 hb_145
          obtain ⟨hr_15_0, hr_15_1, hr_15_2⟩ := hr_15
          refine lv_istore_n (lv' := [(2, .int r_15), (0, .ref r0), (1, .int pp)]) hx hb dX14_readString_35 rfl hl (by decide) rfl (fun ls hl => ?_)
          refine lv_iload_n hx hb dX14_readString_36 rfl (lv_at hl 0 rfl) ?_
          refine lv_bipush (v := 32) hx hb dX14_readString_37 (by decide) ?_
          refine lv_icmp_ge (tgt := 50) hx hb dX14_readString_39 (by decide) (fun c_16 => ?_) (fun c_16 => ?_)
          · skip
            have c_16' : r_15.toInt ≥ 32 := jb_ge (rfl) ((by decide)) c_16
            first | (have hr_15_2q := hr_15_2.resolve_left (by omega); clear hr_15_2) | (have hr_15_2q := hr_15_2.resolve_right (by omega); clear hr_15_2) | skip
            refine lv_iload_n hx hb dX14_readString_50 rfl (lv_at hl 0 rfl) ?_
            refine lv_bipush (v := 92) hx hb dX14_readString_51 (by decide) ?_
            refine lv_icmp_ne (tgt := 73) hx hb dX14_readString_53 (by decide) (fun c_17 => ?_) (fun c_17 => ?_)
            · skip
              have c_17' : r_15.toInt ≠ 92 := jb_ne (rfl) ((by decide)) c_17
              refine lv_aload_n hx hb dX14_readString_73 rfl (lv_at hl 1 rfl) ?_
              refine lv_aload_n hx hb dX14_readString_74 rfl (lv_at hl 1 rfl) ?_
              obtain ⟨v_18, hv_18, hh_19⟩ := hh_14.pin (C := RX14) (T := TX14) (N := 74) hB16 rfl (by decide) hg_r0 (i := 9) (by decide) rfl
              clear hh_14
              obtain ⟨kept_20, rfl, hg_kept_20⟩ := hv_18
              refine j7_read hx hb hown hK (C := RX14) (T := TX14) (N := 74) rfl hly_16_9 hlk_20 (hh_19.at 0 rfl) dX14_readString_75 ?_
              refine lv_aload_n hx hb dX14_readString_78 rfl (lv_at hl 1 rfl) ?_
              refine j7_read hx hb hown hK (C := RX14) (T := TX14) (N := 74) rfl hly_16_29 hlk_273 (hh_19.at 1 rfl) dX14_readString_79 ?_
              refine lv_aload_n hx hb dX14_readString_82 rfl (lv_at hl 1 rfl) ?_
              refine j7_read hx hb hown hK (C := RX14) (T := TX14) (N := 74) rfl hly_16_30 hlk_276 (hh_19.at 4 rfl) dX14_readString_83 ?_
              refine va_calli (A0 := jA base) (H0 := s.heap) (va_runV (As := [.ref kept_20, .int wt_3, .int pe]) (rest := []) ⟨hx, hb, hml, hown, hts⟩ (uX14_utfLength l dC dI ca base B hB hAp hB16 hB110 G0 H_14 r0 kept_20 wt_3 pe 3300) (cwV 3 hts (jgV (jWr_52 _ (List.mem_of_getElem? (i := 14) rfl)) (jWr_52 _ (List.mem_of_getElem? (i := 15) rfl)) (jWr_52 _ (List.mem_of_getElem? (i := 16) rfl)) (jWr_1 _ (List.mem_of_getElem? (i := 5) rfl)) (jWr_52 _ (List.mem_of_getElem? (i := 17) rfl))) rfl rfl rfl (by decide +kernel) ⟨by rw [← hR]; exact Nat.le_of_ble_eq_true rfl, by rw [← hR]; exact Nat.le_of_ble_eq_true rfl⟩) ⟨fun a U g mk q => by obtain ⟨q0, q1, q2, qK, q10, q11, q12, q13⟩ := q; exact ⟨q0, q1, q2, jG.calling g mk a qK, q10, q11, q12, q13⟩, hh_19.recv (C := RX14) (T := TX14) (N := 74) hB16 rfl (by decide) hg_r0 hK, fun U hU hW => ⟨rfl, hU, hh_19.2.1, hG.step hW hU hh_19.1, hg_kept_20, hg_r0, jP.nil, by first | omega | (refine ⟨?_, ?_, ?_, ?_⟩ <;> (first | omega | rfl | assumption | decide | exact Or.inl rfl | exact Or.inr rfl | (simp only; omega)))⟩⟩ rfl rfl hl.1 rfl (lv_room (Nat.le_of_ble_eq_true rfl)) dX14_readString_86 ⟨Nat.zero_le _, Nat.zero_le _⟩) hh_19.1 (fun q _ h => h) (fun q h => h) (fun r_22 u_21 t_21 H_21 locs_21 ht_21 hvm_21 hr_22 hb_21 hz_21 hk_21 hS_21 => ?_)
              obtain ⟨qc_21, rfl⟩ : ∃ z, z = u_21 := ⟨_, rfl⟩
              rw [ht_21] at hb_21
              obtain ⟨hb_211, hb_212, hb_213, hb_214, hb_215⟩ := hb_21
              have hh_21 : jSt (dC, dI) B base G0 G0 EX14_readString s.heap 0 0 [(r0, 16, 33, .int qc_21), (r0, 16, 9, .ref kept_20), (r0, 16, 29, .int wt_3), (r0, 16, 28, .int wp_3), (r0, 16, 31, .int wb_3), (r0, 16, 30, .int pe)] [] [] H_21 locs_21 := ((hh_19.call hb_211 hb_212 hb_213 hb_214 hS_21 rfl (L1 := [(r0, 16, 9, .ref kept_20), (r0, 16, 29, .int wt_3), (r0, 16, 28, .int wp_3), (r0, 16, 31, .int wb_3), (r0, 16, 30, .int pe)]) [0, 1, 2, 3, 4] rfl rfl (M1 := []) [] rfl rfl (I1 := []) [] rfl rfl).more hb_215)
              clear hh_19 ht_21 hvm_21 hz_21 hk_21 hS_21 hb_211 hb_212 hb_213 hb_214 hb_215
              refine lv_istore_n (lv' := [(3, .int r_22), (2, .int r_15), (0, .ref r0), (1, .int pp)]) hx hb dX14_readString_89 rfl hl (by decide) rfl (fun ls hl => ?_)
              refine lv_iload_n hx hb dX14_readString_90 rfl (lv_at hl 0 rfl) ?_
              refine lv_if_ne (tgt := 102) hx hb dX14_readString_91 (by decide) (fun c_23 => ?_) (fun c_23 => ?_)
              · skip
                have c_23' : r_22.toInt ≠ 0 := jb_ne (rfl) ((by decide)) c_23
                refine lv_aload_n hx hb dX14_readString_102 rfl (lv_at hl 2 rfl) ?_
                refine lv_aload_n hx hb dX14_readString_103 rfl (lv_at hl 2 rfl) ?_
                refine j7_read hx hb hown hK (C := RX14) (T := TX14) (N := 74) rfl hly_16_33 hlk_357 (hh_21.at 0 rfl) dX14_readString_104 ?_
                refine va_callv (A0 := jA base) (H0 := s.heap) (va_runV (As := [.int qc_21]) (rest := []) ⟨hx, hb, hml, hown, hts⟩ (uX14_unit l dC dI ca base B hB hAp hB16 hB127 G0 H_21 r0 qc_21 wp_3) (cwV 1 hts (jgV (jWr_51 _ (List.mem_of_getElem? (i := 21) rfl)) (jWr_51 _ (List.mem_of_getElem? (i := 22) rfl)) (jWr_51 _ (List.mem_of_getElem? (i := 23) rfl)) (jWr_1 _ (List.mem_of_getElem? (i := 5) rfl)) (jWr_52 _ (List.mem_of_getElem? (i := 0) rfl))) rfl rfl rfl (by decide +kernel) ⟨by rw [← hR]; exact Nat.le_of_ble_eq_true rfl, by rw [← hR]; exact Nat.le_of_ble_eq_true rfl⟩) ⟨fun a U g mk q => by obtain ⟨q0, q1, q2, qK, q10, q11, q12⟩ := q; exact ⟨q0, q1, q2, jG.calling g mk a qK, q10, q11, q12⟩, hh_21.recv (C := RX14) (T := TX14) (N := 74) hB16 rfl (by decide) hg_r0 hK, fun U hU hW => ⟨rfl, hU, hh_21.2.1, hG.step hW hU hh_21.1, hg_r0, (hh_21.2.2.1.sub (L1 := [(r0, 16, 28, .int wp_3)]) [3] rfl), by first | omega | (refine ⟨?_, ?_⟩ <;> (first | omega | rfl | assumption | decide | exact Or.inl rfl | exact Or.inr rfl | (simp only; omega)))⟩⟩ rfl rfl hl.1 rfl (lv_room (Nat.le_of_ble_eq_true rfl)) dX14_readString_107 ⟨Nat.zero_le _, Nat.zero_le _⟩) hh_21.1 (fun q _ h => h) (fun q h => h) (fun u_24 t_24 H_24 locs_24 ht_24 hvm_24 hr_25 hb_24 hz_24 hk_24 hS_24 => ?_)
                obtain ⟨qp_24, rfl⟩ : ∃ z, z = u_24 := ⟨_, rfl⟩
                rw [ht_24] at hb_24
                obtain ⟨hb_241, hb_242, hb_243, hb_244, hb_245⟩ := hb_24
                have hh_24 : jSt (dC, dI) B base G0 G0 EX14_readString s.heap 0 0 [(r0, 16, 28, .int qp_24), (r0, 16, 33, .int qc_21), (r0, 16, 9, .ref kept_20), (r0, 16, 29, .int wt_3), (r0, 16, 31, .int wb_3), (r0, 16, 30, .int pe)] [] [] H_24 locs_24 := ((hh_21.call hb_241 hb_242 hb_243 hb_244 hS_24 rfl (L1 := [(r0, 16, 33, .int qc_21), (r0, 16, 9, .ref kept_20), (r0, 16, 29, .int wt_3), (r0, 16, 31, .int wb_3), (r0, 16, 30, .int pe)]) [0, 1, 2, 4, 5] rfl rfl (M1 := []) [] rfl rfl (I1 := []) [] rfl rfl).more hb_245)
                clear hh_21 ht_24 hvm_24 hz_24 hk_24 hS_24 hb_241 hb_242 hb_243 hb_244 hb_245
                obtain ⟨hr_25_0, hr_25_1, hr_25_2⟩ := hr_25
                refine lv_aload_n hx hb dX14_readString_110 rfl (lv_at hl 2 rfl) ?_
                refine lv_dup hx hb dX14_readString_111 rfl ?_
                refine j7_read hx hb hown hK (C := RX14) (T := TX14) (N := 74) rfl hly_16_29 hlk_273 (hh_24.at 3 rfl) dX14_readString_112 ?_
                refine lv_iload_n hx hb dX14_readString_115 rfl (lv_at hl 0 rfl) ?_
                refine lv_iadd hx hb dX14_readString_116 ?_
                refine lv_topi (fun z_26 ez_26 => ?_)
                have hz_26 : z_26.toInt = wt_3.toInt + r_22.toInt := by rw [ez_26]; exact jb_iadd2 (rfl) (rfl) (by omega)
                refine j7_put hx hb hown hK hh_24 hB hAp hB16 (C := RX14) (T := TX14) (N := 74) rfl (by decide) hg_r0 (i := 29) (by decide) hly_16_29 rfl hlk_273 rfl (ty := .int) (v := .int z_26) (by decide +kernel) rfl rfl (⟨_, rfl, by omega, by omega⟩) rfl (L1 := [(r0, 16, 28, .int qp_24), (r0, 16, 33, .int qc_21), (r0, 16, 9, .ref kept_20), (r0, 16, 31, .int wb_3), (r0, 16, 30, .int pe)]) [0, 1, 2, 4, 5] rfl rfl rfl dX14_readString_117 (fun H_27 locs_27 hh_27 => ?_)
                clear hh_24
                refine lv_goto (tgt := 15) hx hb dX14_readString_120 (by decide) ?_
                exact L15 z_26 qp_24 wb_3 _ _ (hh_27.sub (L1 := [(r0, 16, 29, .int z_26), (r0, 16, 28, .int qp_24), (r0, 16, 31, .int wb_3), (r0, 16, 30, .int pe)]) [0, 1, 4, 5] rfl (M1 := []) [] rfl (I1 := []) [] rfl) (by first | omega | (refine ⟨?_, ?_, ?_, ?_, ?_, ?_⟩ <;> (first | omega | rfl | assumption | decide | exact Or.inl rfl | exact Or.inr rfl | (simp only; omega)))) (by omega) _ (lv_sub hl [2, 3] rfl)
              · skip
                have c_23' : r_22.toInt = 0 := jb_ne_n (rfl) ((by decide)) c_23
                first | (have hr_22q := hr_22.resolve_left (by omega); clear hr_22) | (have hr_22q := hr_22.resolve_right (by omega); clear hr_22) | skip
                refine lv_aload_n hx hb dX14_readString_94 rfl (lv_at hl 2 rfl) ?_
                refine lv_iconst (v := 1) hx hb dX14_readString_95 (by decide) ?_
                refine j7_put hx hb hown hK hh_21 hB hAp hB16 (C := RX14) (T := TX14) (N := 74) rfl (by decide) hg_r0 (i := 31) (by decide) hly_16_31 rfl hlk_288 rfl (ty := .boolean) (v := .int 1) (by decide +kernel) (jb_nz (Or.inr rfl)) (jb_fz (Or.inr rfl)) (⟨_, rfl, (Or.inr rfl)⟩) rfl (L1 := [(r0, 16, 33, .int qc_21), (r0, 16, 9, .ref kept_20), (r0, 16, 29, .int wt_3), (r0, 16, 28, .int wp_3), (r0, 16, 30, .int pe)]) [0, 1, 2, 3, 5] rfl rfl rfl dX14_readString_96 (fun H_28 locs_28 hh_28 => ?_)
                clear hh_21
                refine lv_goto (tgt := 110) hx hb dX14_readString_99 (by decide) ?_
                refine lv_aload_n hx hb dX14_readString_110 rfl (lv_at hl 2 rfl) ?_
                refine lv_dup hx hb dX14_readString_111 rfl ?_
                refine j7_read hx hb hown hK (C := RX14) (T := TX14) (N := 74) rfl hly_16_29 hlk_273 (hh_28.at 3 rfl) dX14_readString_112 ?_
                refine lv_iload_n hx hb dX14_readString_115 rfl (lv_at hl 0 rfl) ?_
                refine lv_iadd hx hb dX14_readString_116 ?_
                refine lv_topi (fun z_29 ez_29 => ?_)
                have hz_29 : z_29.toInt = wt_3.toInt + r_22.toInt := by rw [ez_29]; exact jb_iadd2 (rfl) (rfl) (by omega)
                refine j7_put hx hb hown hK hh_28 hB hAp hB16 (C := RX14) (T := TX14) (N := 74) rfl (by decide) hg_r0 (i := 29) (by decide) hly_16_29 rfl hlk_273 rfl (ty := .int) (v := .int z_29) (by decide +kernel) rfl rfl (⟨_, rfl, by omega, by omega⟩) rfl (L1 := [(r0, 16, 31, .int 1), (r0, 16, 33, .int qc_21), (r0, 16, 9, .ref kept_20), (r0, 16, 28, .int wp_3), (r0, 16, 30, .int pe)]) [0, 1, 2, 4, 5] rfl rfl rfl dX14_readString_117 (fun H_30 locs_30 hh_30 => ?_)
                clear hh_28
                refine lv_goto (tgt := 15) hx hb dX14_readString_120 (by decide) ?_
                exact L15 z_29 wp_3 1 _ _ (hh_30.sub (L1 := [(r0, 16, 29, .int z_29), (r0, 16, 28, .int wp_3), (r0, 16, 31, .int 1), (r0, 16, 30, .int pe)]) [0, 4, 1, 5] rfl (M1 := []) [] rfl (I1 := []) [] rfl) (by first | omega | (refine ⟨?_, ?_, ?_, ?_, ?_, ?_⟩ <;> (first | omega | rfl | assumption | decide | exact Or.inl rfl | exact Or.inr rfl | (simp only; omega)))) (by omega) _ (lv_sub hl [2, 3] rfl)
            · skip
              have c_17' : r_15.toInt = 92 := jb_ne_n (rfl) ((by decide)) c_17
              first | (have hr_15_2q := hr_15_2.resolve_left (by omega); clear hr_15_2) | (have hr_15_2q := hr_15_2.resolve_right (by omega); clear hr_15_2) | skip
              refine lv_aload_n hx hb dX14_readString_56 rfl (lv_at hl 1 rfl) ?_
              refine lv_dup hx hb dX14_readString_57 rfl ?_
              refine j7_read hx hb hown hK (C := RX14) (T := TX14) (N := 74) rfl hly_16_29 hlk_273 (hh_14.at 0 rfl) dX14_readString_58 ?_
              refine lv_iconst (v := 1) hx hb dX14_readString_61 (by decide) ?_
              refine lv_iadd hx hb dX14_readString_62 ?_
              refine lv_topi (fun z_31 ez_31 => ?_)
              have hz_31 : z_31.toInt = wt_3.toInt + 1 := by rw [ez_31]; exact jb_iadd2 (rfl) ((by decide)) (by omega)
              refine j7_put hx hb hown hK hh_14 hB hAp hB16 (C := RX14) (T := TX14) (N := 74) rfl (by decide) hg_r0 (i := 29) (by decide) hly_16_29 rfl hlk_273 rfl (ty := .int) (v := .int z_31) (by decide +kernel) rfl rfl (⟨_, rfl, by omega, by omega⟩) rfl (L1 := [(r0, 16, 28, .int wp_3), (r0, 16, 31, .int wb_3), (r0, 16, 30, .int pe)]) [1, 2, 3] rfl rfl rfl dX14_readString_63 (fun H_32 locs_32 hh_32 => ?_)
              clear hh_14
              refine lv_aload_n hx hb dX14_readString_66 rfl (lv_at hl 1 rfl) ?_
              refine va_callv (A0 := jA base) (H0 := s.heap) (va_runV (As := []) (rest := []) ⟨hx, hb, hml, hown, hts⟩ (uX14_escape l dC dI ca base B hB hAp hB16 hB110 hB127 G0 H_32 r0 z_31 pe wp_3 wb_3) (cwV 0 hts (jgV (jWr_51 _ (List.mem_of_getElem? (i := 12) rfl)) (jWr_51 _ (List.mem_of_getElem? (i := 13) rfl)) (jWr_51 _ (List.mem_of_getElem? (i := 14) rfl)) (jWr_1 _ (List.mem_of_getElem? (i := 5) rfl)) (jWr_51 _ (List.mem_of_getElem? (i := 15) rfl))) rfl rfl rfl (by decide +kernel) ⟨by rw [← hR]; exact Nat.le_of_ble_eq_true rfl, by rw [← hR]; exact Nat.le_of_ble_eq_true rfl⟩) ⟨fun a U g mk q => by obtain ⟨q0, q1, q2, qK, q10, q11, q12⟩ := q; exact ⟨q0, q1, q2, jG.calling g mk a qK, q10, q11, q12⟩, hh_32.recv (C := RX14) (T := TX14) (N := 74) hB16 rfl (by decide) hg_r0 hK, fun U hU hW => ⟨rfl, hU, hh_32.2.1, hG.step hW hU hh_32.1, hg_r0, (hh_32.2.2.1.sub (L1 := [(r0, 16, 29, .int z_31), (r0, 16, 30, .int pe), (r0, 16, 28, .int wp_3), (r0, 16, 31, .int wb_3)]) [0, 3, 1, 2] rfl), by first | omega | (refine ⟨?_, ?_, ?_, ?_, ?_, ?_, ?_, ?_⟩ <;> (first | omega | rfl | assumption | decide | exact Or.inl rfl | exact Or.inr rfl | (simp only; omega)))⟩⟩ rfl rfl hl.1 rfl (lv_room (Nat.le_of_ble_eq_true rfl)) dX14_readString_67 ⟨Nat.zero_le _, Nat.zero_le _⟩) hh_32.1 (fun q _ h => h) (fun q h => h) (fun u_33 t_33 H_33 locs_33 ht_33 hvm_33 hr_34 hb_33 hz_33 hk_33 hS_33 => ?_)
              obtain ⟨qt_33, qp_33, qb_33⟩ := u_33
              rw [ht_33] at hb_33
              obtain ⟨hb_331, hb_332, hb_333, hb_334, hb_335⟩ := hb_33
              have hh_33 : jSt (dC, dI) B base G0 G0 EX14_readString s.heap 0 0 [(r0, 16, 29, .int qt_33), (r0, 16, 28, .int qp_33), (r0, 16, 31, .int qb_33), (r0, 16, 30, .int pe)] [] [] H_33 locs_33 := ((hh_32.call hb_331 hb_332 hb_333 hb_334 hS_33 rfl (L1 := [(r0, 16, 30, .int pe)]) [3] rfl rfl (M1 := []) [] rfl rfl (I1 := []) [] rfl rfl).more hb_335)
              clear hh_32 ht_33 hvm_33 hz_33 hk_33 hS_33 hb_331 hb_332 hb_333 hb_334 hb_335
              try simp only at hr_34
              obtain ⟨hr_34_0, hr_34_1, hr_34_2, hr_34_3, hr_34_4, hr_34_5, hr_34_6⟩ := hr_34
              refine lv_goto (tgt := 120) hx hb dX14_readString_70 (by decide) ?_
              refine lv_goto (tgt := 15) hx hb dX14_readString_120 (by decide) ?_
              exact L15 qt_33 qp_33 qb_33 _ _ hh_33 (by first | omega | (refine ⟨?_, ?_, ?_, ?_, ?_, ?_⟩ <;> (first | omega | rfl | assumption | decide | exact Or.inl rfl | exact Or.inr rfl | (simp only; omega)))) (by omega) _ (lv_sub hl [1, 2] rfl)
          · skip
            have c_16' : r_15.toInt < 32 := jb_ge_n (rfl) ((by decide)) c_16
            first | (have hr_15_2q := hr_15_2.resolve_left (by omega); clear hr_15_2) | (have hr_15_2q := hr_15_2.resolve_right (by omega); clear hr_15_2) | skip
            refine lv_aload_n hx hb dX14_readString_42 rfl (lv_at hl 1 rfl) ?_
            refine lv_iconst (v := 1) hx hb dX14_readString_43 (by decide) ?_
            refine j7_put hx hb hown hK hh_14 hB hAp hB16 (C := RX14) (T := TX14) (N := 74) rfl (by decide) hg_r0 (i := 31) (by decide) hly_16_31 rfl hlk_288 rfl (ty := .boolean) (v := .int 1) (by decide +kernel) (jb_nz (Or.inr rfl)) (jb_fz (Or.inr rfl)) (⟨_, rfl, (Or.inr rfl)⟩) rfl (L1 := [(r0, 16, 29, .int wt_3), (r0, 16, 28, .int wp_3), (r0, 16, 30, .int pe)]) [0, 1, 3] rfl rfl rfl dX14_readString_44 (fun H_35 locs_35 hh_35 => ?_)
            clear hh_14
            refine lv_goto (tgt := 120) hx hb dX14_readString_47 (by decide) ?_
            refine lv_goto (tgt := 15) hx hb dX14_readString_120 (by decide) ?_
            exact L15 wt_3 wp_3 1 _ _ (hh_35.sub (L1 := [(r0, 16, 29, .int wt_3), (r0, 16, 28, .int wp_3), (r0, 16, 31, .int 1), (r0, 16, 30, .int pe)]) [1, 2, 0, 3] rfl (M1 := []) [] rfl (I1 := []) [] rfl) (by first | omega | (refine ⟨?_, ?_, ?_, ?_, ?_, ?_⟩ <;> (first | omega | rfl | assumption | decide | exact Or.inl rfl | exact Or.inr rfl | (simp only; omega)))) (by omega) _ (lv_sub hl [1, 2] rfl)
  exact L15 (((pe.toInt - (z_1 : Int32).toInt).toNat : Int) + (1 - (pb : Int32).toInt) : Int).toNat.succ z_1 pp pb _ _ (hh_2.sub (L1 := [(r0, 16, 29, .int z_1), (r0, 16, 28, .int pp), (r0, 16, 31, .int pb), (r0, 16, 30, .int pe)]) [0, 2, 3, 1] rfl (M1 := []) [] rfl (I1 := []) [] rfl) (by first | omega | (refine ⟨?_, ?_, ?_, ?_, ?_, ?_⟩ <;> (first | omega | rfl | assumption | decide | exact Or.inl rfl | exact Or.inr rfl | (simp only; omega)))) (by omega) _ (lv_sub hl [1, 0] rfl)
