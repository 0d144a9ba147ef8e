section
theorem dX13_matches_0 : decode cX13_matches 0 = .ok (.aload_n 0, 1) := by decide +kernel
theorem dX13_matches_1 : decode cX13_matches 1 = .ok (.getfield 12, 3) := by decide +kernel
theorem dX13_matches_4 : decode cX13_matches 4 = .ok (.iload_n 1, 1) := by decide +kernel
theorem dX13_matches_5 : decode cX13_matches 5 = .ok (.iaload, 1) := by decide +kernel
theorem dX13_matches_6 : decode cX13_matches 6 = .ok (.bipush 10, 2) := by decide +kernel
theorem dX13_matches_8 : decode cX13_matches 8 = .ok (.if_icmp .ne 74, 3) := by decide +kernel
theorem dX13_matches_11 : decode cX13_matches 11 = .ok (.aload_n 0, 1) := by decide +kernel
theorem dX13_matches_12 : decode cX13_matches 12 = .ok (.getfield 16, 3) := by decide +kernel
theorem dX13_matches_15 : decode cX13_matches 15 = .ok (.iload_n 1, 1) := by decide +kernel
theorem dX13_matches_16 : decode cX13_matches 16 = .ok (.iaload, 1) := by decide +kernel
theorem dX13_matches_17 : decode cX13_matches 17 = .ok (.iload_n 3, 1) := by decide +kernel
theorem dX13_matches_18 : decode cX13_matches 18 = .ok (.if_icmp .lt 64, 3) := by decide +kernel
theorem dX13_matches_21 : decode cX13_matches 21 = .ok (.iload 5, 2) := by decide +kernel
theorem dX13_matches_23 : decode cX13_matches 23 = .ok (.iconst 1, 1) := by decide +kernel
theorem dX13_matches_24 : decode cX13_matches 24 = .ok (.isub, 1) := by decide +kernel
theorem dX13_matches_25 : decode cX13_matches 25 = .ok (.aload_n 0, 1) := by decide +kernel
theorem dX13_matches_26 : decode cX13_matches 26 = .ok (.getfield 16, 3) := by decide +kernel
theorem dX13_matches_29 : decode cX13_matches 29 = .ok (.iload_n 1, 1) := by decide +kernel
theorem dX13_matches_30 : decode cX13_matches 30 = .ok (.iaload, 1) := by decide +kernel
theorem dX13_matches_31 : decode cX13_matches 31 = .ok (.iload_n 3, 1) := by decide +kernel
theorem dX13_matches_32 : decode cX13_matches 32 = .ok (.isub, 1) := by decide +kernel
theorem dX13_matches_33 : decode cX13_matches 33 = .ok (.isub, 1) := by decide +kernel
theorem dX13_matches_34 : decode cX13_matches 34 = .ok (.istore 6, 2) := by decide +kernel
theorem dX13_matches_36 : decode cX13_matches 36 = .ok (.aload_n 0, 1) := by decide +kernel
theorem dX13_matches_37 : decode cX13_matches 37 = .ok (.getfield 12, 3) := by decide +kernel
theorem dX13_matches_40 : decode cX13_matches 40 = .ok (.iload_n 2, 1) := by decide +kernel
theorem dX13_matches_41 : decode cX13_matches 41 = .ok (.iaload, 1) := by decide +kernel
theorem dX13_matches_42 : decode cX13_matches 42 = .ok (.bipush 8, 2) := by decide +kernel
theorem dX13_matches_44 : decode cX13_matches 44 = .ok (.if_icmp .lt 11, 3) := by decide +kernel
theorem dX13_matches_47 : decode cX13_matches 47 = .ok (.aload_n 0, 1) := by decide +kernel
theorem dX13_matches_48 : decode cX13_matches 48 = .ok (.iload_n 2, 1) := by decide +kernel
theorem dX13_matches_49 : decode cX13_matches 49 = .ok (.invokevirtual 273, 3) := by decide +kernel
theorem dX13_matches_52 : decode cX13_matches 52 = .ok (.ifCond .eq 5, 3) := by decide +kernel
theorem dX13_matches_55 : decode cX13_matches 55 = .ok (.iconst 0, 1) := by decide +kernel
theorem dX13_matches_56 : decode cX13_matches 56 = .ok (.ireturn, 1) := by decide +kernel
theorem dX13_matches_57 : decode cX13_matches 57 = .ok (.aload 4, 2) := by decide +kernel
theorem dX13_matches_59 : decode cX13_matches 59 = .ok (.iload 6, 2) := by decide +kernel
theorem dX13_matches_61 : decode cX13_matches 61 = .ok (.iaload, 1) := by decide +kernel
theorem dX13_matches_62 : decode cX13_matches 62 = .ok (.ifCond .ge 9, 3) := by decide +kernel
theorem dX13_matches_65 : decode cX13_matches 65 = .ok (.aload 4, 2) := by decide +kernel
theorem dX13_matches_67 : decode cX13_matches 67 = .ok (.iload 6, 2) := by decide +kernel
theorem dX13_matches_69 : decode cX13_matches 69 = .ok (.iload_n 2, 1) := by decide +kernel
theorem dX13_matches_70 : decode cX13_matches 70 = .ok (.iastore, 1) := by decide +kernel
theorem dX13_matches_71 : decode cX13_matches 71 = .ok (.aload_n 0, 1) := by decide +kernel
theorem dX13_matches_72 : decode cX13_matches 72 = .ok (.aload 4, 2) := by decide +kernel
theorem dX13_matches_74 : decode cX13_matches 74 = .ok (.iload 6, 2) := by decide +kernel
theorem dX13_matches_76 : decode cX13_matches 76 = .ok (.iaload, 1) := by decide +kernel
theorem dX13_matches_77 : decode cX13_matches 77 = .ok (.iload_n 2, 1) := by decide +kernel
theorem dX13_matches_78 : decode cX13_matches 78 = .ok (.invokevirtual 262, 3) := by decide +kernel
theorem dX13_matches_81 : decode cX13_matches 81 = .ok (.ireturn, 1) := by decide +kernel
theorem dX13_matches_82 : decode cX13_matches 82 = .ok (.aload_n 0, 1) := by decide +kernel
theorem dX13_matches_83 : decode cX13_matches 83 = .ok (.getfield 12, 3) := by decide +kernel
theorem dX13_matches_86 : decode cX13_matches 86 = .ok (.iload_n 1, 1) := by decide +kernel
theorem dX13_matches_87 : decode cX13_matches 87 = .ok (.iaload, 1) := by decide +kernel
theorem dX13_matches_88 : decode cX13_matches 88 = .ok (.aload_n 0, 1) := by decide +kernel
theorem dX13_matches_89 : decode cX13_matches 89 = .ok (.getfield 12, 3) := by decide +kernel
theorem dX13_matches_92 : decode cX13_matches 92 = .ok (.iload_n 2, 1) := by decide +kernel
theorem dX13_matches_93 : decode cX13_matches 93 = .ok (.iaload, 1) := by decide +kernel
theorem dX13_matches_94 : decode cX13_matches 94 = .ok (.if_icmp .eq 5, 3) := by decide +kernel
theorem dX13_matches_97 : decode cX13_matches 97 = .ok (.iconst 0, 1) := by decide +kernel
theorem dX13_matches_98 : decode cX13_matches 98 = .ok (.ireturn, 1) := by decide +kernel
theorem dX13_matches_99 : decode cX13_matches 99 = .ok (.aload_n 0, 1) := by decide +kernel
theorem dX13_matches_100 : decode cX13_matches 100 = .ok (.getfield 12, 3) := by decide +kernel
theorem dX13_matches_103 : decode cX13_matches 103 = .ok (.iload_n 1, 1) := by decide +kernel
theorem dX13_matches_104 : decode cX13_matches 104 = .ok (.iaload, 1) := by decide +kernel
theorem dX13_matches_105 : decode cX13_matches 105 = .ok (.istore 6, 2) := by decide +kernel
theorem dX13_matches_107 : decode cX13_matches 107 = .ok (.iload 6, 2) := by decide +kernel
theorem dX13_matches_109 : decode cX13_matches 109 = .ok (.bipush 7, 2) := by decide +kernel
theorem dX13_matches_111 : decode cX13_matches 111 = .ok (.if_icmp .eq 24, 3) := by decide +kernel
theorem dX13_matches_114 : decode cX13_matches 114 = .ok (.iload 6, 2) := by decide +kernel
theorem dX13_matches_116 : decode cX13_matches 116 = .ok (.bipush 8, 2) := by decide +kernel
theorem dX13_matches_118 : decode cX13_matches 118 = .ok (.if_icmp .eq 17, 3) := by decide +kernel
theorem dX13_matches_121 : decode cX13_matches 121 = .ok (.iload 6, 2) := by decide +kernel
theorem dX13_matches_123 : decode cX13_matches 123 = .ok (.bipush 9, 2) := by decide +kernel
theorem dX13_matches_125 : decode cX13_matches 125 = .ok (.if_icmp .eq 10, 3) := by decide +kernel
theorem dX13_matches_128 : decode cX13_matches 128 = .ok (.iload 6, 2) := by decide +kernel
theorem dX13_matches_130 : decode cX13_matches 130 = .ok (.bipush 10, 2) := by decide +kernel
theorem dX13_matches_132 : decode cX13_matches 132 = .ok (.if_icmp .ne 20, 3) := by decide +kernel
theorem dX13_matches_135 : decode cX13_matches 135 = .ok (.aload_n 0, 1) := by decide +kernel
theorem dX13_matches_136 : decode cX13_matches 136 = .ok (.getfield 16, 3) := by decide +kernel
theorem dX13_matches_139 : decode cX13_matches 139 = .ok (.iload_n 1, 1) := by decide +kernel
theorem dX13_matches_140 : decode cX13_matches 140 = .ok (.iaload, 1) := by decide +kernel
theorem dX13_matches_141 : decode cX13_matches 141 = .ok (.aload_n 0, 1) := by decide +kernel
theorem dX13_matches_142 : decode cX13_matches 142 = .ok (.getfield 16, 3) := by decide +kernel
theorem dX13_matches_145 : decode cX13_matches 145 = .ok (.iload_n 2, 1) := by decide +kernel
theorem dX13_matches_146 : decode cX13_matches 146 = .ok (.iaload, 1) := by decide +kernel
theorem dX13_matches_147 : decode cX13_matches 147 = .ok (.if_icmp .eq 5, 3) := by decide +kernel
theorem dX13_matches_150 : decode cX13_matches 150 = .ok (.iconst 0, 1) := by decide +kernel
theorem dX13_matches_151 : decode cX13_matches 151 = .ok (.ireturn, 1) := by decide +kernel
theorem dX13_matches_152 : decode cX13_matches 152 = .ok (.iload 6, 2) := by decide +kernel
theorem dX13_matches_154 : decode cX13_matches 154 = .ok (.iconst 4, 1) := by decide +kernel
theorem dX13_matches_155 : decode cX13_matches 155 = .ok (.if_icmp .eq 9, 3) := by decide +kernel
theorem dX13_matches_158 : decode cX13_matches 158 = .ok (.iload 6, 2) := by decide +kernel
theorem dX13_matches_160 : decode cX13_matches 160 = .ok (.iconst 5, 1) := by decide +kernel
theorem dX13_matches_161 : decode cX13_matches 161 = .ok (.if_icmp .ne 9, 3) := by decide +kernel
theorem dX13_matches_164 : decode cX13_matches 164 = .ok (.iload_n 3, 1) := by decide +kernel
theorem dX13_matches_165 : decode cX13_matches 165 = .ok (.iconst 1, 1) := by decide +kernel
theorem dX13_matches_166 : decode cX13_matches 166 = .ok (.iadd, 1) := by decide +kernel
theorem dX13_matches_167 : decode cX13_matches 167 = .ok (.goto 4, 3) := by decide +kernel
theorem dX13_matches_170 : decode cX13_matches 170 = .ok (.iload_n 3, 1) := by decide +kernel
theorem dX13_matches_171 : decode cX13_matches 171 = .ok (.istore 7, 2) := by decide +kernel
theorem dX13_matches_173 : decode cX13_matches 173 = .ok (.iconst 0, 1) := by decide +kernel
theorem dX13_matches_174 : decode cX13_matches 174 = .ok (.istore 8, 2) := by decide +kernel
theorem dX13_matches_176 : decode cX13_matches 176 = .ok (.iload 8, 2) := by decide +kernel
theorem dX13_matches_178 : decode cX13_matches 178 = .ok (.aload_n 0, 1) := by decide +kernel
theorem dX13_matches_179 : decode cX13_matches 179 = .ok (.iload_n 1, 1) := by decide +kernel
theorem dX13_matches_180 : decode cX13_matches 180 = .ok (.invokevirtual 252, 3) := by decide +kernel
theorem dX13_matches_183 : decode cX13_matches 183 = .ok (.if_icmp .ge 38, 3) := by decide +kernel
theorem dX13_matches_186 : decode cX13_matches 186 = .ok (.aload_n 0, 1) := by decide +kernel
theorem dX13_matches_187 : decode cX13_matches 187 = .ok (.aload_n 0, 1) := by decide +kernel
theorem dX13_matches_188 : decode cX13_matches 188 = .ok (.iload_n 1, 1) := by decide +kernel
theorem dX13_matches_189 : decode cX13_matches 189 = .ok (.iload 8, 2) := by decide +kernel
theorem dX13_matches_191 : decode cX13_matches 191 = .ok (.invokevirtual 255, 3) := by decide +kernel
theorem dX13_matches_194 : decode cX13_matches 194 = .ok (.aload_n 0, 1) := by decide +kernel
theorem dX13_matches_195 : decode cX13_matches 195 = .ok (.iload_n 2, 1) := by decide +kernel
theorem dX13_matches_196 : decode cX13_matches 196 = .ok (.iload 8, 2) := by decide +kernel
theorem dX13_matches_198 : decode cX13_matches 198 = .ok (.invokevirtual 255, 3) := by decide +kernel
theorem dX13_matches_201 : decode cX13_matches 201 = .ok (.iload 7, 2) := by decide +kernel
theorem dX13_matches_203 : decode cX13_matches 203 = .ok (.aload 4, 2) := by decide +kernel
theorem dX13_matches_205 : decode cX13_matches 205 = .ok (.iload 5, 2) := by decide +kernel
theorem dX13_matches_207 : decode cX13_matches 207 = .ok (.invokevirtual 276, 3) := by decide +kernel
theorem dX13_matches_210 : decode cX13_matches 210 = .ok (.ifCond .ne 5, 3) := by decide +kernel
theorem dX13_matches_213 : decode cX13_matches 213 = .ok (.iconst 0, 1) := by decide +kernel
theorem dX13_matches_214 : decode cX13_matches 214 = .ok (.ireturn, 1) := by decide +kernel
theorem dX13_matches_215 : decode cX13_matches 215 = .ok (.iinc 8 1, 3) := by decide +kernel
theorem dX13_matches_218 : decode cX13_matches 218 = .ok (.goto (-42), 3) := by decide +kernel
theorem dX13_matches_221 : decode cX13_matches 221 = .ok (.iconst 1, 1) := by decide +kernel
theorem dX13_matches_222 : decode cX13_matches 222 = .ok (.ireturn, 1) := by decide +kernel
def EX13_matches : List (Nat × Nat) := [(169, 0)]
def qX13_matches (l : Launch) (dC : Nat → ClassId) (dI : Nat → Nat → Nat) (ca : Nat → ClassId) (base : Nat) (B : jF) (d : Nat) : Prop := ∀ (G0 : jT) (H0 : Heap) (r0 : Nat) (a1 : Int32) (a2 : Int32) (a3 : Int32) (r4 : Nat) (a5 : Int32) (n4 : Nat) (pn : Int32) (py : Int32) (zs : Nat) (zn : Nat) (za : Nat) (zb : Nat) (zc : Nat) (zy : Nat) (T : Nat → Int32) (C : jK), Met l yX13_matches (jw yX13_matches cX13_matches 9 (some .boolean)) ({ frames := d + 1620, cells := 0, slots := 0, locals := 60 * d + 67000 }) (va_Pc [.ref r0, .int a1, .int a2, .int a3, .ref r4, .int a5] (fun U => U.heap = H0 ∧ jX B base G0 [] H0 ∧ jG dC dI ca base U ∧ G0 r4 = some (169, n4) ∧ G0 r0 = some (15, 0) ∧ G0 zs = some (150, 120000) ∧ G0 zn = some (151, 120000) ∧ G0 za = some (152, 120000) ∧ G0 zb = some (153, 120000) ∧ G0 zc = some (154, 120000) ∧ G0 zy = some (165, 16) ∧ jP (dC, dI) G0 H0 [(r0, 15, 5, .int pn), (r0, 15, 11, .int py), (r0, 15, 0, .ref zs), (r0, 15, 1, .ref zn), (r0, 15, 2, .ref za), (r0, 15, 3, .ref zb), (r0, 15, 4, .ref zc), (r0, 15, 14, .ref zy)] ∧ jMc (dC, dI) G0 H0 [(r4, 169, n4, ca 1, T), (zs, 150, 120000, ca 1, C.s), (zn, 151, 120000, ca 1, C.n), (za, 152, 120000, ca 1, C.a), (zb, 153, 120000, ca 1, C.b), (zc, 154, 120000, ca 1, C.c), (zy, 165, 16, ca 1, C.y)] ∧ jFm C pn.toInt py.toInt d (a3.toInt + a5.toInt) a1.toInt ∧ jFm C pn.toInt py.toInt 80 a3.toInt a2.toInt ∧ jsz C a2.toInt ≤ 80 ∧ jTo C pn.toInt py.toInt T a5.toInt ∧ d ≤ 80 ∧ 0 ≤ a3.toInt ∧ a3.toInt + d ≤ 2000 ∧ 0 ≤ a5.toInt ∧ a5.toInt ≤ n4 ∧ n4 ≤ 100 ∧ 0 ≤ pn.toInt ∧ pn.toInt ≤ 120000 ∧ 0 ≤ py.toInt ∧ py.toInt ≤ 16)) (va_Qi (S := (Nat → Int32)) (fun r u => (r = 0 ∨ r = 1) ∧ (jTo C pn.toInt py.toInt u a5.toInt)) (fun u t => jRt (dC, dI) B base G0 EX13_matches H0 [] t.heap ∧ jMc (dC, dI) G0 t.heap [(r4, 169, n4, ca 1, u)]) (jA base)) 0 0 (jA base)
set_option maxHeartbeats 4000000 in
set_option maxRecDepth 20000 in
theorem uX13_matches (l : Launch) (dC : Nat → ClassId) (dI : Nat → Nat → Nat) (ca : Nat → ClassId) (base : Nat) (B : jF) (hB : jBok B) (hAp : jAp (dC, dI)) (hB15 : ∀ n G a H, B 15 n G a H ↔ jOb (dC, dI) 15 50 (F15 n G) a H) (hB150 : ∀ n G a H, B 150 n G a H ↔ jAr (dC, dI) (ca 1) (fun j z => True) n a H) (hB151 : ∀ n G a H, B 151 n G a H ↔ jAr (dC, dI) (ca 1) (fun j z => True) n a H) (hB152 : ∀ n G a H, B 152 n G a H ↔ jAr (dC, dI) (ca 1) (fun j z => True) n a H) (hB153 : ∀ n G a H, B 153 n G a H ↔ jAr (dC, dI) (ca 1) (fun j z => True) n a H) (hB154 : ∀ n G a H, B 154 n G a H ↔ jAr (dC, dI) (ca 1) (fun j z => True) n a H) (hB165 : ∀ n G a H, B 165 n G a H ↔ jAr (dC, dI) (ca 1) (fun j z => 0 ≤ z.toInt ∧ z.toInt ≤ 3) n a H) (hB169 : ∀ n G a H, B 169 n G a H ↔ jAr (dC, dI) (ca 1) (fun j z => True) n a H) (d : Nat) (ih : ∀ d1, d1 < d → qX13_matches l dC dI ca base B d1) (G0 : jT) (H0 : Heap) (r0 : Nat) (a1 : Int32) (a2 : Int32) (a3 : Int32) (r4 : Nat) (a5 : Int32) (n4 : Nat) (pn : Int32) (py : Int32) (zs : Nat) (zn : Nat) (za : Nat) (zb : Nat) (zc : Nat) (zy : Nat) (T : Nat → Int32) (C : jK) : Met l yX13_matches (jw yX13_matches cX13_matches 9 (some .boolean)) ({ frames := d + 1620, cells := 0, slots := 0, locals := 60 * d + 67000 }) (va_Pc [.ref r0, .int a1, .int a2, .int a3, .ref r4, .int a5] (fun U => U.heap = H0 ∧ jX B base G0 [] H0 ∧ jG dC dI ca base U ∧ G0 r4 = some (169, n4) ∧ G0 r0 = some (15, 0) ∧ G0 zs = some (150, 120000) ∧ G0 zn = some (151, 120000) ∧ G0 za = some (152, 120000) ∧ G0 zb = some (153, 120000) ∧ G0 zc = some (154, 120000) ∧ G0 zy = some (165, 16) ∧ jP (dC, dI) G0 H0 [(r0, 15, 5, .int pn), (r0, 15, 11, .int py), (r0, 15, 0, .ref zs), (r0, 15, 1, .ref zn), (r0, 15, 2, .ref za), (r0, 15, 3, .ref zb), (r0, 15, 4, .ref zc), (r0, 15, 14, .ref zy)] ∧ jMc (dC, dI) G0 H0 [(r4, 169, n4, ca 1, T), (zs, 150, 120000, ca 1, C.s), (zn, 151, 120000, ca 1, C.n), (za, 152, 120000, ca 1, C.a), (zb, 153, 120000, ca 1, C.b), (zc, 154, 120000, ca 1, C.c), (zy, 165, 16, ca 1, C.y)] ∧ jFm C pn.toInt py.toInt d (a3.toInt + a5.toInt) a1.toInt ∧ jFm C pn.toInt py.toInt 80 a3.toInt a2.toInt ∧ jsz C a2.toInt ≤ 80 ∧ jTo C pn.toInt py.toInt T a5.toInt ∧ d ≤ 80 ∧ 0 ≤ a3.toInt ∧ a3.toInt + d ≤ 2000 ∧ 0 ≤ a5.toInt ∧ a5.toInt ≤ n4 ∧ n4 ≤ 100 ∧ 0 ≤ pn.toInt ∧ pn.toInt ≤ 120000 ∧ 0 ≤ py.toInt ∧ py.toInt ≤ 16)) (va_Qi (S := (Nat → Int32)) (fun r u => (r = 0 ∨ r = 1) ∧ (jTo C pn.toInt py.toInt u a5.toInt)) (fun u t => jRt (dC, dI) B base G0 EX13_matches H0 [] t.heap ∧ jMc (dC, dI) G0 t.heap [(r4, 169, n4, ca 1, u)]) (jA base)) 0 0 (jA base) := by
  refine Met.ofW (cc := cX13_matches) (maxL := 9) (ret := (some .boolean)) (by decide) rfl ?_
  intro p e s m args below meth c s₁ Bd hml hv
  obtain ⟨rfl, hH0, hX, hG, hg_r4, hg_r0, hg_zs, hg_zn, hg_za, hg_zb, hg_zc, hg_zy, hP0, hM0, hp0, hp1, hp2, hp3, hp4, hp5, hp6, hp7, hp8, hp9, hp10, hp11, hp12, hp13⟩ := hv
  have hK := hG.1
  have hx := Bd.exec
  have hb := Bd.bytes
  have hr := Bd.returns
  have hts := atoms_spec (ws := (jw yX13_matches cX13_matches 9 (some .boolean))) Bd.pre
  have htw : ∀ w ∈ jWl, w.before _ s = true := fun w h => hts w (List.mem_cons_of_mem _ h)
  have hown : s.vm.findClass RX13 = some m.cls := findClass_of_methodNamed Bd.named
  have hlocks := Bd.notSynchronized
  obtain ⟨Q, hQ⟩ : ∃ Q, Q = MQ below (va_Qi (S := (Nat → Int32)) (fun r u => (r = 0 ∨ r = 1) ∧ (jTo C pn.toInt py.toInt u a5.toInt)) (fun u t => jRt (dC, dI) B base G0 EX13_matches H0 [] t.heap ∧ jMc (dC, dI) G0 t.heap [(r4, 169, n4, ca 1, u)]) (jA base)) ([.ref r0, .int a1, .int a2, .int a3, .ref r4, .int a5] : List Value).toArray s 0 0 (jA base) := ⟨_, rfl⟩
  rw [← hQ]
  have hl := lv_entry ([.ref r0, .int a1, .int a2, .int a3, .ref r4, .int a5]) (n := 9) (Nat.le_of_ble_eq_true rfl)
  rw [lg_entry_eq]
  generalize (lg_sl ([.ref r0, .int a1, .int a2, .int a3, .ref r4, .int a5]) ++ List.replicate (9 - (lg_sl ([.ref r0, .int a1, .int a2, .int a3, .ref r4, .int a5])).length) Slot.unset).toArray = ls at hl ⊢
  have hl : lv_has ls 9 [(0, .ref r0), (1, .int a1), (2, .int a2), (3, .int a3), (4, .ref r4), (5, .int a5)] := hl
  generalize hR : (headSpec (jw yX13_matches cX13_matches 9 (some .boolean)) ({ frames := d + 1620, cells := 0, slots := 0, locals := 60 * d + 67000 })).room = R
  subst hH0
  have hh : jSt (dC, dI) B base G0 G0 EX13_matches s.heap 0 0 [(r0, 15, 5, .int pn), (r0, 15, 11, .int py), (r0, 15, 0, .ref zs), (r0, 15, 1, .ref zn), (r0, 15, 2, .ref za), (r0, 15, 3, .ref zb), (r0, 15, 4, .ref zc), (r0, 15, 14, .ref zy)] [(r4, 169, n4, ca 1, T), (zs, 150, 120000, ca 1, C.s), (zn, 151, 120000, ca 1, C.n), (za, 152, 120000, ca 1, C.a), (zb, 153, 120000, ca 1, C.b), (zc, 154, 120000, ca 1, C.c), (zy, 165, 16, ca 1, C.y)] [] s.heap [] := jSt.start hX hP0 hM0 jIs.nil
  clear hX hP0
  have hk0 : (0 : Int32).toInt = 0 := by decide
  have hk1 : (1 : Int32).toInt = 1 := by decide
  have hk4 : (4 : Int32).toInt = 4 := by decide
  have hk5 : (5 : Int32).toInt = 5 := by decide
  have hk7 : (7 : Int32).toInt = 7 := by decide
  have hk8 : (8 : Int32).toInt = 8 := by decide
  have hk9 : (9 : Int32).toInt = 9 := by decide
  have hk10 : (10 : Int32).toInt = 10 := by decide
  have hly_15_0 := htw (u_lay RX13 TX13 0) (jWc_wsX130 _ (u_in_lay (by decide)))
  have hly_15_1 := htw (u_lay RX13 TX13 1) (jWc_wsX130 _ (u_in_lay (by decide)))
  have hlk_12 := (htw (.fieldLink RX13 12 "ProofServerModel$Kernel" "sort" "[I") (jWr_14 _ (List.mem_of_getElem? (i := 9) rfl)))
  have hlk_16 := (htw (.fieldLink RX13 16 "ProofServerModel$Kernel" "name" "[I") (jWr_14 _ (List.mem_of_getElem? (i := 10) rfl)))
  have hrg_a1 := jb_rng a1
  have hrg_a2 := jb_rng a2
  have hrg_a3 := jb_rng a3
  have hrg_a5 := jb_rng a5
  obtain ⟨g1, g2, g3, g4, -, -, -, g8, g9⟩ := hp0.nd
  have hpos := hp0.pos
  obtain ⟨e1, e2, e3, e4, -, -, -, e8, e9⟩ := hp1.nd
  refine lv_aload_n hx hb dX13_matches_0 rfl (lv_at hl 0 rfl) ?_
  refine j7_read hx hb hown hK (C := RX13) (T := TX13) (N := 50) rfl hly_15_0 hlk_12 (hh.at 2 rfl) dX13_matches_1 ?_
  refine lv_iload_n hx hb dX13_matches_4 rfl (lv_at hl 1 rfl) ?_
  refine j7_ialdM hx hb hK hh hB150 1 rfl (by decide) hg_zs (x := a1.toInt) (rfl) (by omega) (j := 1) rfl dX13_matches_5 (fun z_1 ez_1 (hz_1 : True) => ?_)
  have hqz_1 : z_1.toInt = jSo C.s (a1.toInt) := by unfold jSo; rw [ez_1]
  refine lv_bipush (v := 10) hx hb dX13_matches_6 (by decide) ?_
  have C82 : ∀ (H_2 : Heap) (locs_2 : List Loc), jSt (dC, dI) B base G0 G0 EX13_matches s.heap 0 0 [(r0, 15, 5, .int pn), (r0, 15, 11, .int py), (r0, 15, 0, .ref zs), (r0, 15, 1, .ref zn), (r0, 15, 2, .ref za), (r0, 15, 3, .ref zb), (r0, 15, 4, .ref zc), (r0, 15, 14, .ref zy)] [(r4, 169, n4, ca 1, T), (zs, 150, 120000, ca 1, C.s), (zn, 151, 120000, ca 1, C.n), (za, 152, 120000, ca 1, C.a), (zb, 153, 120000, ca 1, C.b), (zc, 154, 120000, ca 1, C.c), (zy, 165, 16, ca 1, C.y)] [] H_2 locs_2 → (True) → ∀ ls : Array Slot, lv_has ls 9 [(0, .ref r0), (1, .int a1), (2, .int a2), (3, .int a3), (4, .ref r4), (5, .int a5)] → W p l e R s m ([.ref r0, .int a1, .int a2, .int a3, .ref r4, .int a5] : List Value).toArray below meth c H_2 locs_2 0 0 Q (F0 m 82 ls []) := by
    intro  H_2 locs_2 hh_2  hi_2 ls hl
    refine lv_aload_n hx hb dX13_matches_82 rfl (lv_at hl 0 rfl) ?_
    refine j7_read hx hb hown hK (C := RX13) (T := TX13) (N := 50) rfl hly_15_0 hlk_12 (hh_2.at 2 rfl) dX13_matches_83 ?_
    refine lv_iload_n hx hb dX13_matches_86 rfl (lv_at hl 1 rfl) ?_
    refine j7_ialdM hx hb hK hh_2 hB150 1 rfl (by decide) hg_zs (x := a1.toInt) (rfl) (by omega) (j := 1) rfl dX13_matches_87 (fun z_3 ez_3 (hz_3 : True) => ?_)
    have hqz_3 : z_3.toInt = jSo C.s (a1.toInt) := by unfold jSo; rw [ez_3]
    refine lv_aload_n hx hb dX13_matches_88 rfl (lv_at hl 0 rfl) ?_
    refine j7_read hx hb hown hK (C := RX13) (T := TX13) (N := 50) rfl hly_15_0 hlk_12 (hh_2.at 2 rfl) dX13_matches_89 ?_
    refine lv_iload_n hx hb dX13_matches_92 rfl (lv_at hl 2 rfl) ?_
    refine j7_ialdM hx hb hK hh_2 hB150 1 rfl (by decide) hg_zs (x := a2.toInt) (rfl) (by omega) (j := 1) rfl dX13_matches_93 (fun z_4 ez_4 (hz_4 : True) => ?_)
    have hqz_4 : z_4.toInt = jSo C.s (a2.toInt) := by unfold jSo; rw [ez_4]
    refine lv_icmp_eq (tgt := 99) hx hb dX13_matches_94 (by decide) (fun c_5 => ?_) (fun c_5 => ?_)
    · skip
      have c_5' : z_3.toInt = z_4.toInt := jb_eq (rfl) (rfl) c_5
      refine lv_aload_n hx hb dX13_matches_99 rfl (lv_at hl 0 rfl) ?_
      refine j7_read hx hb hown hK (C := RX13) (T := TX13) (N := 50) rfl hly_15_0 hlk_12 (hh_2.at 2 rfl) dX13_matches_100 ?_
      refine lv_iload_n hx hb dX13_matches_103 rfl (lv_at hl 1 rfl) ?_
      refine j7_ialdM hx hb hK hh_2 hB150 1 rfl (by decide) hg_zs (x := a1.toInt) (rfl) (by omega) (j := 1) rfl dX13_matches_104 (fun z_6 ez_6 (hz_6 : True) => ?_)
      have hqz_6 : z_6.toInt = jSo C.s (a1.toInt) := by unfold jSo; rw [ez_6]
      refine lv_istore (lv' := [(6, .int z_6), (0, .ref r0), (1, .int a1), (2, .int a2), (3, .int a3), (4, .ref r4), (5, .int a5)]) hx hb dX13_matches_105 hl (by decide) rfl (fun ls hl => ?_)
      refine lv_iload hx hb dX13_matches_107 (lv_at hl 0 rfl) ?_
      refine lv_bipush (v := 7) hx hb dX13_matches_109 (by decide) ?_
      have C152 : ∀ (H_7 : Heap) (locs_7 : List Loc), jSt (dC, dI) B base G0 G0 EX13_matches s.heap 0 0 [(r0, 15, 5, .int pn), (r0, 15, 11, .int py), (r0, 15, 0, .ref zs), (r0, 15, 1, .ref zn), (r0, 15, 2, .ref za), (r0, 15, 3, .ref zb), (r0, 15, 4, .ref zc), (r0, 15, 14, .ref zy)] [(r4, 169, n4, ca 1, T), (zs, 150, 120000, ca 1, C.s), (zn, 151, 120000, ca 1, C.n), (za, 152, 120000, ca 1, C.a), (zb, 153, 120000, ca 1, C.b), (zc, 154, 120000, ca 1, C.c), (zy, 165, 16, ca 1, C.y)] [] H_7 locs_7 → ((7 ≤ jSo C.s a1.toInt ∧ jSo C.s a1.toInt ≤ 10 → jSo C.n a1.toInt = jSo C.n a2.toInt)) → ∀ ls : Array Slot, lv_has ls 9 [(0, .ref r0), (1, .int a1), (2, .int a2), (3, .int a3), (4, .ref r4), (5, .int a5), (6, .int z_6)] → W p l e R s m ([.ref r0, .int a1, .int a2, .int a3, .ref r4, .int a5] : List Value).toArray below meth c H_7 locs_7 0 0 Q (F0 m 152 ls []) := by
        intro  H_7 locs_7 hh_7  hi_7 ls hl
        have hpq : jPts C a2.toInt = jPts C a1.toInt := jPts_like (D := C) (by omega) (fun _ => by omega) (fun _ => rfl)
        have hqq : jQf C a2.toInt = jQf C a1.toInt := by unfold jQf; rw [show jSo C.s a2.toInt = jSo C.s a1.toInt by omega]
        refine lv_iload hx hb dX13_matches_152 (lv_at hl 6 rfl) ?_
        refine lv_iconst (v := 4) hx hb dX13_matches_154 (by decide) ?_
        have C171 : ∀ (w0_8 : Int32) (H_8 : Heap) (locs_8 : List Loc), jSt (dC, dI) B base G0 G0 EX13_matches s.heap 0 0 [(r0, 15, 5, .int pn), (r0, 15, 11, .int py), (r0, 15, 0, .ref zs), (r0, 15, 1, .ref zn), (r0, 15, 2, .ref za), (r0, 15, 3, .ref zb), (r0, 15, 4, .ref zc), (r0, 15, 14, .ref zy)] [(r4, 169, n4, ca 1, T), (zs, 150, 120000, ca 1, C.s), (zn, 151, 120000, ca 1, C.n), (za, 152, 120000, ca 1, C.a), (zb, 153, 120000, ca 1, C.b), (zc, 154, 120000, ca 1, C.c), (zy, 165, 16, ca 1, C.y)] [] H_8 locs_8 → (w0_8.toInt = a3.toInt + jQf C a1.toInt) → ∀ ls : Array Slot, lv_has ls 9 [(0, .ref r0), (1, .int a1), (2, .int a2), (3, .int a3), (4, .ref r4), (5, .int a5), (6, .int z_6)] → W p l e R s m ([.ref r0, .int a1, .int a2, .int a3, .ref r4, .int a5] : List Value).toArray below meth c H_8 locs_8 0 0 Q (F0 m 171 ls [.int w0_8]) := by
          intro w0_8 H_8 locs_8 hh_8  hi_8 ls hl
          have hq01 := (jQf_ok C a1.toInt).2.2
          refine lv_istore (lv' := [(7, .int w0_8), (0, .ref r0), (1, .int a1), (2, .int a2), (3, .int a3), (4, .ref r4), (5, .int a5), (6, .int z_6)]) hx hb dX13_matches_171 hl (by decide) rfl (fun ls hl => ?_)
          refine lv_iconst (v := 0) hx hb dX13_matches_173 (by decide) ?_
          refine lv_istore (lv' := [(8, .int 0), (7, .int w0_8), (0, .ref r0), (1, .int a1), (2, .int a2), (3, .int a3), (4, .ref r4), (5, .int a5), (6, .int z_6)]) hx hb dX13_matches_174 hl (by decide) rfl (fun ls hl => ?_)
          have L176 : ∀ (N : Nat) (v8_9 : Int32) (T_9 : Nat → Int32) (H_9 : Heap) (locs_9 : List Loc), jSt (dC, dI) B base G0 G0 EX13_matches s.heap 0 0 [(r0, 15, 5, .int pn), (r0, 15, 11, .int py), (r0, 15, 0, .ref zs), (r0, 15, 1, .ref zn), (r0, 15, 2, .ref za), (r0, 15, 3, .ref zb), (r0, 15, 4, .ref zc), (r0, 15, 14, .ref zy)] [(r4, 169, n4, ca 1, T_9), (zs, 150, 120000, ca 1, C.s), (zn, 151, 120000, ca 1, C.n), (za, 152, 120000, ca 1, C.a), (zb, 153, 120000, ca 1, C.b), (zc, 154, 120000, ca 1, C.c), (zy, 165, 16, ca 1, C.y)] [] H_9 locs_9 → (0 ≤ v8_9.toInt ∧ v8_9.toInt ≤ jPts C a1.toInt ∧ jTo C pn.toInt py.toInt T_9 a5.toInt) → (3 - v8_9.toInt : Int) < N → ∀ ls : Array Slot, lv_has ls 9 [(0, .ref r0), (1, .int a1), (2, .int a2), (3, .int a3), (4, .ref r4), (5, .int a5), (6, .int z_6), (7, .int w0_8), (8, .int v8_9)] → W p l e R s m ([.ref r0, .int a1, .int a2, .int a3, .ref r4, .int a5] : List Value).toArray below meth c H_9 locs_9 0 0 Q (F0 m 176 ls []) := by
            intro N
            induction N with
            | zero => intro v8_9 T_9 H_9 locs_9 hh_9  hi_9 hm; exact absurd hm (by omega)
            | succ N L176 =>
              intro v8_9 T_9 H_9 locs_9 hh_9  hi_9 hm_9 ls hl
              obtain ⟨hi_9_0, hi_9_1, hi_9_2⟩ := hi_9
              refine lv_iload hx hb dX13_matches_176 (lv_at hl 8 rfl) ?_
              refine lv_aload_n hx hb dX13_matches_178 rfl (lv_at hl 0 rfl) ?_
              refine lv_iload_n hx hb dX13_matches_179 rfl (lv_at hl 1 rfl) ?_
              refine va_calli (A0 := jA base) (H0 := s.heap) (va_runV (As := [.int a1]) (rest := [.int v8_9]) ⟨hx, hb, hml, hown, hts⟩ (uX13_parts l dC dI ca base B hB hAp hB15 hB150 hB151 hB152 hB153 hB154 hB165 G0 H_9 r0 a1 zs zn za zb zc zy C) (cwV 1 hts (jgV (jWr_65 _ (List.mem_of_getElem? (i := 15) rfl)) (jWr_65 _ (List.mem_of_getElem? (i := 16) rfl)) (jWr_65 _ (List.mem_of_getElem? (i := 17) rfl)) (jWr_12 _ (List.mem_of_getElem? (i := 12) rfl)) (jWr_65 _ (List.mem_of_getElem? (i := 18) rfl))) rfl rfl rfl (by decide +kernel) ⟨by rw [← hR]; show (0) + 1 ≤ d + 1620; omega, by rw [← hR]; show 8 + (3 + 11) + (0) ≤ 60 * d + 67000; omega⟩) ⟨fun a U g mk q => by obtain ⟨q0, q1, q2, qK, q10, q11, q12, q13, q14, q15, q16, q17, q18, q19⟩ := q; exact ⟨q0, q1, q2, jG.calling g mk a qK, q10, q11, q12, q13, q14, q15, q16, q17, q18, q19⟩, hh_9.recv (C := RX13) (T := TX13) (N := 50) hB15 rfl (by decide) hg_r0 hK, fun U hU hW => ⟨rfl, hU, hh_9.2.1, hG.step hW hU hh_9.1, hg_r0, hg_zs, hg_zn, hg_za, hg_zb, hg_zc, hg_zy, (hh_9.2.2.1.sub (L1 := [(r0, 15, 0, .ref zs), (r0, 15, 1, .ref zn), (r0, 15, 2, .ref za), (r0, 15, 3, .ref zb), (r0, 15, 4, .ref zc), (r0, 15, 14, .ref zy)]) [2, 3, 4, 5, 6, 7] rfl), (hh_9.2.2.2.2.2.2.2.1.sub (L1 := [(zs, 150, 120000, ca 1, C.s), (zn, 151, 120000, ca 1, C.n), (za, 152, 120000, ca 1, C.a), (zb, 153, 120000, ca 1, C.b), (zc, 154, 120000, ca 1, C.c), (zy, 165, 16, ca 1, C.y)]) [1, 2, 3, 4, 5, 6] rfl), ⟨(by first | omega | rfl | assumption | exact hp0.sym (by omega)), (by first | omega | rfl | assumption | exact hp0.sym (by omega)), (by first | assumption | exact hp0.sym (by omega) | omega)⟩⟩⟩ rfl rfl hl.1 rfl (lv_room (Nat.le_of_ble_eq_true rfl)) dX13_matches_180 ⟨Nat.zero_le _, Nat.zero_le _⟩) hh_9.1 (fun q _ h => h) (fun q h => h) (fun r_11 u_10 t_10 H_10 locs_10 ht_10 hvm_10 hr_11 hb_10 hz_10 hk_10 hS_10 => ?_)
              rw [ht_10] at hb_10
              obtain ⟨hb_101, hb_102, hb_103, hb_104, hb_105⟩ := hb_10
              have hh_10 : jSt (dC, dI) B base G0 G0 EX13_matches s.heap 0 0 [(r0, 15, 5, .int pn), (r0, 15, 11, .int py), (r0, 15, 0, .ref zs), (r0, 15, 1, .ref zn), (r0, 15, 2, .ref za), (r0, 15, 3, .ref zb), (r0, 15, 4, .ref zc), (r0, 15, 14, .ref zy)] [(r4, 169, n4, ca 1, T_9), (zs, 150, 120000, ca 1, C.s), (zn, 151, 120000, ca 1, C.n), (za, 152, 120000, ca 1, C.a), (zb, 153, 120000, ca 1, C.b), (zc, 154, 120000, ca 1, C.c), (zy, 165, 16, ca 1, C.y)] [] H_10 locs_10 := ((hh_9.call hb_101 hb_102 hb_103 hb_104 hS_10 rfl (L1 := [(r0, 15, 5, .int pn), (r0, 15, 11, .int py), (r0, 15, 0, .ref zs), (r0, 15, 1, .ref zn), (r0, 15, 2, .ref za), (r0, 15, 3, .ref zb), (r0, 15, 4, .ref zc), (r0, 15, 14, .ref zy)]) [0, 1, 2, 3, 4, 5, 6, 7] rfl rfl (M1 := [(r4, 169, n4, ca 1, T_9), (zs, 150, 120000, ca 1, C.s), (zn, 151, 120000, ca 1, C.n), (za, 152, 120000, ca 1, C.a), (zb, 153, 120000, ca 1, C.b), (zc, 154, 120000, ca 1, C.c), (zy, 165, 16, ca 1, C.y)]) [0, 1, 2, 3, 4, 5, 6] rfl rfl (I1 := []) [] rfl rfl).more hb_105)
              clear hh_9 ht_10 hvm_10 hz_10 hk_10 hS_10 hb_101 hb_102 hb_103 hb_104 hb_105
              obtain ⟨hr_11_0, hr_11_1, hr_11_2⟩ := hr_11
              refine lv_icmp_ge (tgt := 221) hx hb dX13_matches_183 (by decide) (fun c_12 => ?_) (fun c_12 => ?_)
              · skip
                have c_12' : v8_9.toInt ≥ r_11.toInt := jb_ge (rfl) (rfl) c_12
                refine lv_iconst (v := 1) hx hb dX13_matches_221 (by decide) ?_
                rw [hQ]
                exact W.zret (v := 1) hx hb hr (jb_nz (Or.inr rfl)) (fun t ht hW => ⟨⟨1, T_9, rfl, ⟨(Or.inr rfl), by (try dsimp only); first | exact hp3 | exact hi_9_2 | exact (zz_none) | exact hp3.set (zz_none) (zz_none) (by omega) (by omega) ((((hp1.mono (by omega : 80 ≤ 1600) (Int.le_refl _)).closed ((zz_none) (by omega)) 0)).tight (by omega : 1600 ≤ 4000) 80 (by omega)) (by omega)⟩, ⟨hh_10.rt (M1 := []) [] rfl ht, by rw [ht]; exact hh_10.2.2.2.2.2.2.2.1.sub [0] rfl⟩⟩, by rw [ht]; try exact hh_10.1.1, fun q h9 hq => by rw [ht]; try exact hh_10.1.2.1 q h9 hq⟩) hh_10.1.2.2 dX13_matches_222
              · skip
                have c_12' : v8_9.toInt < r_11.toInt := jb_ge_n (rfl) (rfl) c_12
                refine lv_aload_n hx hb dX13_matches_186 rfl (lv_at hl 0 rfl) ?_
                refine lv_aload_n hx hb dX13_matches_187 rfl (lv_at hl 0 rfl) ?_
                refine lv_iload_n hx hb dX13_matches_188 rfl (lv_at hl 1 rfl) ?_
                refine lv_iload hx hb dX13_matches_189 (lv_at hl 8 rfl) ?_
                refine va_calli (A0 := jA base) (H0 := s.heap) (va_runV (As := [.int a1, .int v8_9]) (rest := [.ref r0]) ⟨hx, hb, hml, hown, hts⟩ (uX13_partK l dC dI ca base B hB hAp hB15 hB150 hB151 hB152 hB153 hB154 hB165 G0 H_10 r0 a1 v8_9 zs zn za zb zc zy C) (cwV 2 hts (jgV (jWr_65 _ (List.mem_of_getElem? (i := 19) rfl)) (jWr_65 _ (List.mem_of_getElem? (i := 20) rfl)) (jWr_65 _ (List.mem_of_getElem? (i := 21) rfl)) (jWr_12 _ (List.mem_of_getElem? (i := 12) rfl)) (jWr_65 _ (List.mem_of_getElem? (i := 22) rfl))) rfl rfl rfl (by decide +kernel) ⟨by rw [← hR]; show (0) + 1 ≤ d + 1620; omega, by rw [← hR]; show 8 + (3 + 11) + (0) ≤ 60 * d + 67000; omega⟩) ⟨fun a U g mk q => by obtain ⟨q0, q1, q2, qK, q10, q11, q12, q13, q14, q15, q16, q17, q18, q19⟩ := q; exact ⟨q0, q1, q2, jG.calling g mk a qK, q10, q11, q12, q13, q14, q15, q16, q17, q18, q19⟩, hh_10.recv (C := RX13) (T := TX13) (N := 50) hB15 rfl (by decide) hg_r0 hK, fun U hU hW => ⟨rfl, hU, hh_10.2.1, hG.step hW hU hh_10.1, hg_r0, hg_zs, hg_zn, hg_za, hg_zb, hg_zc, hg_zy, (hh_10.2.2.1.sub (L1 := [(r0, 15, 0, .ref zs), (r0, 15, 1, .ref zn), (r0, 15, 2, .ref za), (r0, 15, 3, .ref zb), (r0, 15, 4, .ref zc), (r0, 15, 14, .ref zy)]) [2, 3, 4, 5, 6, 7] rfl), (hh_10.2.2.2.2.2.2.2.1.sub (L1 := [(zs, 150, 120000, ca 1, C.s), (zn, 151, 120000, ca 1, C.n), (za, 152, 120000, ca 1, C.a), (zb, 153, 120000, ca 1, C.b), (zc, 154, 120000, ca 1, C.c), (zy, 165, 16, ca 1, C.y)]) [1, 2, 3, 4, 5, 6] rfl), by first | omega | (refine ⟨?_, ?_⟩ <;> (first | omega | rfl | assumption | decide | exact Or.inl rfl | exact Or.inr rfl | (simp only; omega)))⟩⟩ rfl rfl hl.1 rfl (lv_room (Nat.le_of_ble_eq_true rfl)) dX13_matches_191 ⟨Nat.zero_le _, Nat.zero_le _⟩) hh_10.1 (fun q _ h => h) (fun q h => h) (fun r_14 u_13 t_13 H_13 locs_13 ht_13 hvm_13 hr_14 hb_13 hz_13 hk_13 hS_13 => ?_)
                rw [ht_13] at hb_13
                obtain ⟨hb_131, hb_132, hb_133, hb_134, hb_135⟩ := hb_13
                have hh_13 : jSt (dC, dI) B base G0 G0 EX13_matches s.heap 0 0 [(r0, 15, 5, .int pn), (r0, 15, 11, .int py), (r0, 15, 0, .ref zs), (r0, 15, 1, .ref zn), (r0, 15, 2, .ref za), (r0, 15, 3, .ref zb), (r0, 15, 4, .ref zc), (r0, 15, 14, .ref zy)] [(r4, 169, n4, ca 1, T_9), (zs, 150, 120000, ca 1, C.s), (zn, 151, 120000, ca 1, C.n), (za, 152, 120000, ca 1, C.a), (zb, 153, 120000, ca 1, C.b), (zc, 154, 120000, ca 1, C.c), (zy, 165, 16, ca 1, C.y)] [] H_13 locs_13 := ((hh_10.call hb_131 hb_132 hb_133 hb_134 hS_13 rfl (L1 := [(r0, 15, 5, .int pn), (r0, 15, 11, .int py), (r0, 15, 0, .ref zs), (r0, 15, 1, .ref zn), (r0, 15, 2, .ref za), (r0, 15, 3, .ref zb), (r0, 15, 4, .ref zc), (r0, 15, 14, .ref zy)]) [0, 1, 2, 3, 4, 5, 6, 7] rfl rfl (M1 := [(r4, 169, n4, ca 1, T_9), (zs, 150, 120000, ca 1, C.s), (zn, 151, 120000, ca 1, C.n), (za, 152, 120000, ca 1, C.a), (zb, 153, 120000, ca 1, C.b), (zc, 154, 120000, ca 1, C.c), (zy, 165, 16, ca 1, C.y)]) [0, 1, 2, 3, 4, 5, 6] rfl rfl (I1 := []) [] rfl rfl).more hb_135)
                clear hh_10 ht_13 hvm_13 hz_13 hk_13 hS_13 hb_131 hb_132 hb_133 hb_134 hb_135
                refine lv_aload_n hx hb dX13_matches_194 rfl (lv_at hl 0 rfl) ?_
                refine lv_iload_n hx hb dX13_matches_195 rfl (lv_at hl 2 rfl) ?_
                refine lv_iload hx hb dX13_matches_196 (lv_at hl 8 rfl) ?_
                refine va_calli (A0 := jA base) (H0 := s.heap) (va_runV (As := [.int a2, .int v8_9]) (rest := [.int r_14, .ref r0]) ⟨hx, hb, hml, hown, hts⟩ (uX13_partK l dC dI ca base B hB hAp hB15 hB150 hB151 hB152 hB153 hB154 hB165 G0 H_13 r0 a2 v8_9 zs zn za zb zc zy C) (cwV 2 hts (jgV (jWr_65 _ (List.mem_of_getElem? (i := 19) rfl)) (jWr_65 _ (List.mem_of_getElem? (i := 20) rfl)) (jWr_65 _ (List.mem_of_getElem? (i := 21) rfl)) (jWr_12 _ (List.mem_of_getElem? (i := 12) rfl)) (jWr_65 _ (List.mem_of_getElem? (i := 22) rfl))) rfl rfl rfl (by decide +kernel) ⟨by rw [← hR]; show (0) + 1 ≤ d + 1620; omega, by rw [← hR]; show 8 + (3 + 11) + (0) ≤ 60 * d + 67000; omega⟩) ⟨fun a U g mk q => by obtain ⟨q0, q1, q2, qK, q10, q11, q12, q13, q14, q15, q16, q17, q18, q19⟩ := q; exact ⟨q0, q1, q2, jG.calling g mk a qK, q10, q11, q12, q13, q14, q15, q16, q17, q18, q19⟩, hh_13.recv (C := RX13) (T := TX13) (N := 50) hB15 rfl (by decide) hg_r0 hK, fun U hU hW => ⟨rfl, hU, hh_13.2.1, hG.step hW hU hh_13.1, hg_r0, hg_zs, hg_zn, hg_za, hg_zb, hg_zc, hg_zy, (hh_13.2.2.1.sub (L1 := [(r0, 15, 0, .ref zs), (r0, 15, 1, .ref zn), (r0, 15, 2, .ref za), (r0, 15, 3, .ref zb), (r0, 15, 4, .ref zc), (r0, 15, 14, .ref zy)]) [2, 3, 4, 5, 6, 7] rfl), (hh_13.2.2.2.2.2.2.2.1.sub (L1 := [(zs, 150, 120000, ca 1, C.s), (zn, 151, 120000, ca 1, C.n), (za, 152, 120000, ca 1, C.a), (zb, 153, 120000, ca 1, C.b), (zc, 154, 120000, ca 1, C.c), (zy, 165, 16, ca 1, C.y)]) [1, 2, 3, 4, 5, 6] rfl), by first | omega | (refine ⟨?_, ?_⟩ <;> (first | omega | rfl | assumption | decide | exact Or.inl rfl | exact Or.inr rfl | (simp only; omega)))⟩⟩ rfl rfl hl.1 rfl (lv_room (Nat.le_of_ble_eq_true rfl)) dX13_matches_198 ⟨Nat.zero_le _, Nat.zero_le _⟩) hh_13.1 (fun q _ h => h) (fun q h => h) (fun r_16 u_15 t_15 H_15 locs_15 ht_15 hvm_15 hr_16 hb_15 hz_15 hk_15 hS_15 => ?_)
                rw [ht_15] at hb_15
                obtain ⟨hb_151, hb_152, hb_153, hb_154, hb_155⟩ := hb_15
                have hh_15 : jSt (dC, dI) B base G0 G0 EX13_matches s.heap 0 0 [(r0, 15, 5, .int pn), (r0, 15, 11, .int py), (r0, 15, 0, .ref zs), (r0, 15, 1, .ref zn), (r0, 15, 2, .ref za), (r0, 15, 3, .ref zb), (r0, 15, 4, .ref zc), (r0, 15, 14, .ref zy)] [(r4, 169, n4, ca 1, T_9), (zs, 150, 120000, ca 1, C.s), (zn, 151, 120000, ca 1, C.n), (za, 152, 120000, ca 1, C.a), (zb, 153, 120000, ca 1, C.b), (zc, 154, 120000, ca 1, C.c), (zy, 165, 16, ca 1, C.y)] [] H_15 locs_15 := ((hh_13.call hb_151 hb_152 hb_153 hb_154 hS_15 rfl (L1 := [(r0, 15, 5, .int pn), (r0, 15, 11, .int py), (r0, 15, 0, .ref zs), (r0, 15, 1, .ref zn), (r0, 15, 2, .ref za), (r0, 15, 3, .ref zb), (r0, 15, 4, .ref zc), (r0, 15, 14, .ref zy)]) [0, 1, 2, 3, 4, 5, 6, 7] rfl rfl (M1 := [(r4, 169, n4, ca 1, T_9), (zs, 150, 120000, ca 1, C.s), (zn, 151, 120000, ca 1, C.n), (za, 152, 120000, ca 1, C.a), (zb, 153, 120000, ca 1, C.b), (zc, 154, 120000, ca 1, C.c), (zy, 165, 16, ca 1, C.y)]) [0, 1, 2, 3, 4, 5, 6] rfl rfl (I1 := []) [] rfl rfl).more hb_155)
                clear hh_13 ht_15 hvm_15 hz_15 hk_15 hS_15 hb_151 hb_152 hb_153 hb_154 hb_155
                refine lv_iload hx hb dX13_matches_201 (lv_at hl 7 rfl) ?_
                refine lv_aload hx hb dX13_matches_203 (lv_at hl 4 rfl) ?_
                refine lv_iload hx hb dX13_matches_205 (lv_at hl 5 rfl) ?_
                refine va_calli (A0 := jA base) (H0 := s.heap) (va_runV (As := [.int r_14, .int r_16, .int w0_8, .ref r4, .int a5]) (rest := []) ⟨hx, hb, hml, hown, hts⟩ (ih (d - 1) (by omega) G0 H_15 r0 r_14 r_16 w0_8 r4 a5 n4 pn py zs zn za zb zc zy T_9 C) (cwV 5 hts (jgV (jWr_68 _ (List.mem_of_getElem? (i := 7) rfl)) (jWr_68 _ (List.mem_of_getElem? (i := 8) rfl)) (jWr_68 _ (List.mem_of_getElem? (i := 9) rfl)) (jWr_12 _ (List.mem_of_getElem? (i := 12) rfl)) (jWr_68 _ (List.mem_of_getElem? (i := 10) rfl))) rfl rfl rfl (by decide +kernel) ⟨by rw [← hR]; show (d - 1 + 1620) + 1 ≤ d + 1620; omega, by rw [← hR]; show 8 + (9 + 11) + (60 * (d - 1) + 67000) ≤ 60 * d + 67000; omega⟩) ⟨fun a U g mk q => by obtain ⟨q0, q1, q2, qK, q10, q11, q12, q13, q14, q15, q16, q17, q18, q19, q20⟩ := q; exact ⟨q0, q1, q2, jG.calling g mk a qK, q10, q11, q12, q13, q14, q15, q16, q17, q18, q19, q20⟩, hh_15.recv (C := RX13) (T := TX13) (N := 50) hB15 rfl (by decide) hg_r0 hK, fun U hU hW => ⟨rfl, hU, hh_15.2.1, hG.step hW hU hh_15.1, hg_r4, hg_r0, hg_zs, hg_zn, hg_za, hg_zb, hg_zc, hg_zy, (hh_15.2.2.1.sub (L1 := [(r0, 15, 5, .int pn), (r0, 15, 11, .int py), (r0, 15, 0, .ref zs), (r0, 15, 1, .ref zn), (r0, 15, 2, .ref za), (r0, 15, 3, .ref zb), (r0, 15, 4, .ref zc), (r0, 15, 14, .ref zy)]) [0, 1, 2, 3, 4, 5, 6, 7] rfl), (hh_15.2.2.2.2.2.2.2.1.sub (L1 := [(r4, 169, n4, ca 1, T_9), (zs, 150, 120000, ca 1, C.s), (zn, 151, 120000, ca 1, C.n), (za, 152, 120000, ca 1, C.a), (zb, 153, 120000, ca 1, C.b), (zc, 154, 120000, ca 1, C.c), (zy, 165, 16, ca 1, C.y)]) [0, 1, 2, 3, 4, 5, 6] rfl), ⟨(by first | assumption | (rw [hr_14]; exact (hp0.part (by omega) (by omega)).mono (Nat.le_refl _) (by omega)) | (rw [hr_16]; exact (hp1.part (by omega) (by omega)).mono (by omega) (by omega)) | (rw [hr_16]; have h9 := jsz_part hp1 (by omega) (k := v8_9.toInt) (by omega) (by omega); omega) | exact hi_9_2 | omega), (by first | assumption | (rw [hr_14]; exact (hp0.part (by omega) (by omega)).mono (Nat.le_refl _) (by omega)) | (rw [hr_16]; exact (hp1.part (by omega) (by omega)).mono (by omega) (by omega)) | (rw [hr_16]; have h9 := jsz_part hp1 (by omega) (k := v8_9.toInt) (by omega) (by omega); omega) | exact hi_9_2 | omega), (by first | omega | rfl | assumption | (rw [hr_14]; exact (hp0.part (by omega) (by omega)).mono (Nat.le_refl _) (by omega)) | (rw [hr_16]; exact (hp1.part (by omega) (by omega)).mono (by omega) (by omega)) | (rw [hr_16]; have h9 := jsz_part hp1 (by omega) (k := v8_9.toInt) (by omega) (by omega); omega) | exact hi_9_2), (by first | assumption | (rw [hr_14]; exact (hp0.part (by omega) (by omega)).mono (Nat.le_refl _) (by omega)) | (rw [hr_16]; exact (hp1.part (by omega) (by omega)).mono (by omega) (by omega)) | (rw [hr_16]; have h9 := jsz_part hp1 (by omega) (k := v8_9.toInt) (by omega) (by omega); omega) | exact hi_9_2 | omega), (by first | omega | rfl | assumption | (rw [hr_14]; exact (hp0.part (by omega) (by omega)).mono (Nat.le_refl _) (by omega)) | (rw [hr_16]; exact (hp1.part (by omega) (by omega)).mono (by omega) (by omega)) | (rw [hr_16]; have h9 := jsz_part hp1 (by omega) (k := v8_9.toInt) (by omega) (by omega); omega) | exact hi_9_2), (by first | omega | rfl | assumption | (rw [hr_14]; exact (hp0.part (by omega) (by omega)).mono (Nat.le_refl _) (by omega)) | (rw [hr_16]; exact (hp1.part (by omega) (by omega)).mono (by omega) (by omega)) | (rw [hr_16]; have h9 := jsz_part hp1 (by omega) (k := v8_9.toInt) (by omega) (by omega); omega) | exact hi_9_2), (by first | omega | rfl | assumption | (rw [hr_14]; exact (hp0.part (by omega) (by omega)).mono (Nat.le_refl _) (by omega)) | (rw [hr_16]; exact (hp1.part (by omega) (by omega)).mono (by omega) (by omega)) | (rw [hr_16]; have h9 := jsz_part hp1 (by omega) (k := v8_9.toInt) (by omega) (by omega); omega) | exact hi_9_2), (by first | omega | rfl | assumption | (rw [hr_14]; exact (hp0.part (by omega) (by omega)).mono (Nat.le_refl _) (by omega)) | (rw [hr_16]; exact (hp1.part (by omega) (by omega)).mono (by omega) (by omega)) | (rw [hr_16]; have h9 := jsz_part hp1 (by omega) (k := v8_9.toInt) (by omega) (by omega); omega) | exact hi_9_2), (by first | omega | rfl | assumption | (rw [hr_14]; exact (hp0.part (by omega) (by omega)).mono (Nat.le_refl _) (by omega)) | (rw [hr_16]; exact (hp1.part (by omega) (by omega)).mono (by omega) (by omega)) | (rw [hr_16]; have h9 := jsz_part hp1 (by omega) (k := v8_9.toInt) (by omega) (by omega); omega) | exact hi_9_2), (by first | omega | rfl | assumption | (rw [hr_14]; exact (hp0.part (by omega) (by omega)).mono (Nat.le_refl _) (by omega)) | (rw [hr_16]; exact (hp1.part (by omega) (by omega)).mono (by omega) (by omega)) | (rw [hr_16]; have h9 := jsz_part hp1 (by omega) (k := v8_9.toInt) (by omega) (by omega); omega) | exact hi_9_2), (by first | omega | rfl | assumption | (rw [hr_14]; exact (hp0.part (by omega) (by omega)).mono (Nat.le_refl _) (by omega)) | (rw [hr_16]; exact (hp1.part (by omega) (by omega)).mono (by omega) (by omega)) | (rw [hr_16]; have h9 := jsz_part hp1 (by omega) (k := v8_9.toInt) (by omega) (by omega); omega) | exact hi_9_2), (by first | omega | rfl | assumption | (rw [hr_14]; exact (hp0.part (by omega) (by omega)).mono (Nat.le_refl _) (by omega)) | (rw [hr_16]; exact (hp1.part (by omega) (by omega)).mono (by omega) (by omega)) | (rw [hr_16]; have h9 := jsz_part hp1 (by omega) (k := v8_9.toInt) (by omega) (by omega); omega) | exact hi_9_2), (by first | omega | rfl | assumption | (rw [hr_14]; exact (hp0.part (by omega) (by omega)).mono (Nat.le_refl _) (by omega)) | (rw [hr_16]; exact (hp1.part (by omega) (by omega)).mono (by omega) (by omega)) | (rw [hr_16]; have h9 := jsz_part hp1 (by omega) (k := v8_9.toInt) (by omega) (by omega); omega) | exact hi_9_2), (by first | omega | rfl | assumption | (rw [hr_14]; exact (hp0.part (by omega) (by omega)).mono (Nat.le_refl _) (by omega)) | (rw [hr_16]; exact (hp1.part (by omega) (by omega)).mono (by omega) (by omega)) | (rw [hr_16]; have h9 := jsz_part hp1 (by omega) (k := v8_9.toInt) (by omega) (by omega); omega) | exact hi_9_2)⟩⟩⟩ rfl rfl hl.1 rfl (lv_room (Nat.le_of_ble_eq_true rfl)) dX13_matches_207 ⟨Nat.zero_le _, Nat.zero_le _⟩) hh_15.1 (fun q _ h => h) (fun q h => h) (fun r_18 u_17 t_17 H_17 locs_17 ht_17 hvm_17 hr_18 hb_17 hz_17 hk_17 hS_17 => ?_)
                obtain ⟨T1_17, rfl⟩ : ∃ z, z = u_17 := ⟨_, rfl⟩
                rw [ht_17] at hb_17
                obtain ⟨⟨hb_171, hb_172, hb_173, hb_174, hb_175⟩, hb_176⟩ := hb_17
                have hh_17 : jSt (dC, dI) B base G0 G0 EX13_matches s.heap 0 0 [(r0, 15, 5, .int pn), (r0, 15, 11, .int py), (r0, 15, 0, .ref zs), (r0, 15, 1, .ref zn), (r0, 15, 2, .ref za), (r0, 15, 3, .ref zb), (r0, 15, 4, .ref zc), (r0, 15, 14, .ref zy)] [(r4, 169, n4, ca 1, T1_17), (zs, 150, 120000, ca 1, C.s), (zn, 151, 120000, ca 1, C.n), (za, 152, 120000, ca 1, C.a), (zb, 153, 120000, ca 1, C.b), (zc, 154, 120000, ca 1, C.c), (zy, 165, 16, ca 1, C.y)] [] H_17 locs_17 := ((hh_15.call hb_171 hb_172 hb_173 hb_174 hS_17 rfl (L1 := [(r0, 15, 5, .int pn), (r0, 15, 11, .int py), (r0, 15, 0, .ref zs), (r0, 15, 1, .ref zn), (r0, 15, 2, .ref za), (r0, 15, 3, .ref zb), (r0, 15, 4, .ref zc), (r0, 15, 14, .ref zy)]) [0, 1, 2, 3, 4, 5, 6, 7] rfl rfl (M1 := [(zs, 150, 120000, ca 1, C.s), (zn, 151, 120000, ca 1, C.n), (za, 152, 120000, ca 1, C.a), (zb, 153, 120000, ca 1, C.b), (zc, 154, 120000, ca 1, C.c), (zy, 165, 16, ca 1, C.y)]) [1, 2, 3, 4, 5, 6] rfl rfl (I1 := []) [] rfl rfl).more hb_175).moreM hb_176
                clear hh_15 ht_17 hvm_17 hz_17 hk_17 hS_17 hb_171 hb_172 hb_173 hb_174 hb_175
                clear hb_176
                obtain ⟨hr_18b, hr_18p⟩ := hr_18
                have hr_18' := jb_01 hr_18b
                refine lv_if_ne (tgt := 215) hx hb dX13_matches_210 (by decide) (fun c_19 => ?_) (fun c_19 => ?_)
                · skip
                  have c_19' : r_18.toInt ≠ 0 := jb_ne (rfl) ((by decide)) c_19
                  obtain ⟨z_20, ez_20⟩ : ∃ y : Int32, y = v8_9 + 1 := ⟨_, rfl⟩
                  refine lv_iinc (v := z_20) (lv' := [(8, .int z_20), (0, .ref r0), (1, .int a1), (2, .int a2), (3, .int a3), (4, .ref r4), (5, .int a5), (6, .int z_6), (7, .int w0_8)]) hx hb dX13_matches_215 hl (k := 8) rfl (by rw [ez_20]; rfl) (by decide) rfl (fun ls hl => ?_)
                  have hz_20 : z_20.toInt = v8_9.toInt + 1 := by rw [ez_20]; exact jb_iadd2 (rfl) (by decide) (by omega)
                  refine lv_goto (tgt := 176) hx hb dX13_matches_218 (by decide) ?_
                  exact L176 z_20 T1_17 _ _ hh_17 (⟨(by first | omega | rfl | assumption | exact hp3 | exact hr_18p), (by first | omega | rfl | assumption | exact hp3 | exact hr_18p), (by first | assumption | exact hp3 | exact hr_18p | omega)⟩) (by omega) _ (lv_sub hl [1, 2, 3, 4, 5, 6, 7, 8, 0] rfl)
                · skip
                  have c_19' : r_18.toInt = 0 := jb_ne_n (rfl) ((by decide)) c_19
                  refine lv_iconst (v := 0) hx hb dX13_matches_213 (by decide) ?_
                  rw [hQ]
                  exact W.zret (v := 0) hx hb hr (jb_nz (Or.inl rfl)) (fun t ht hW => ⟨⟨0, T1_17, rfl, ⟨(Or.inl rfl), by (try dsimp only); first | exact hp3 | exact hi_9_2 | exact hr_18p | exact hp3.set (zz_none) (zz_none) (by omega) (by omega) ((((hp1.mono (by omega : 80 ≤ 1600) (Int.le_refl _)).closed ((zz_none) (by omega)) 0)).tight (by omega : 1600 ≤ 4000) 80 (by omega)) (by omega)⟩, ⟨hh_17.rt (M1 := []) [] rfl ht, by rw [ht]; exact hh_17.2.2.2.2.2.2.2.1.sub [0] rfl⟩⟩, by rw [ht]; try exact hh_17.1.1, fun q h9 hq => by rw [ht]; try exact hh_17.1.2.1 q h9 hq⟩) hh_17.1.2.2 dX13_matches_214
          exact L176 (3 - (0 : Int32).toInt : Int).toNat.succ 0 T _ _ hh_8 (⟨(by first | omega | rfl | assumption | exact hp3 | exact hr_18p), (by first | omega | rfl | assumption | exact hp3 | exact hr_18p), (by first | assumption | exact hp3 | exact hr_18p | omega)⟩) (by omega) _ (lv_sub hl [2, 3, 4, 5, 6, 7, 8, 1, 0] rfl)
        refine lv_icmp_eq (tgt := 164) hx hb dX13_matches_155 (by decide) (fun c_21 => ?_) (fun c_21 => ?_)
        · skip
          have c_21' : z_6.toInt = 4 := jb_eq (rfl) ((by decide)) c_21
          have hqf := (jQf_ok C a1.toInt).1 (by omega)
          refine lv_iload_n hx hb dX13_matches_164 rfl (lv_at hl 3 rfl) ?_
          refine lv_iconst (v := 1) hx hb dX13_matches_165 (by decide) ?_
          refine lv_iadd hx hb dX13_matches_166 ?_
          refine lv_topi (fun z_22 ez_22 => ?_)
          have hz_22 : z_22.toInt = a3.toInt + 1 := by rw [ez_22]; exact jb_iadd2 (rfl) ((by decide)) (by omega)
          refine lv_goto (tgt := 171) hx hb dX13_matches_167 (by decide) ?_
          exact C171 z_22 _ _ hh_7 (by first | omega | rfl | assumption | decide | exact Or.inl rfl | exact Or.inr rfl | (simp only; omega)) _ (lv_sub hl [0, 1, 2, 3, 4, 5, 6] rfl)
        · skip
          have c_21' : z_6.toInt ≠ 4 := jb_eq_n (rfl) ((by decide)) c_21
          refine lv_iload hx hb dX13_matches_158 (lv_at hl 6 rfl) ?_
          refine lv_iconst (v := 5) hx hb dX13_matches_160 (by decide) ?_
          refine lv_icmp_ne (tgt := 170) hx hb dX13_matches_161 (by decide) (fun c_23 => ?_) (fun c_23 => ?_)
          · skip
            have c_23' : z_6.toInt ≠ 5 := jb_ne (rfl) ((by decide)) c_23
            have hqf := (jQf_ok C a1.toInt).2.1 (by omega)
            refine lv_iload_n hx hb dX13_matches_170 rfl (lv_at hl 3 rfl) ?_
            exact C171 a3 _ _ hh_7 (by first | omega | rfl | assumption | decide | exact Or.inl rfl | exact Or.inr rfl | (simp only; omega)) _ (lv_sub hl [0, 1, 2, 3, 4, 5, 6] rfl)
          · skip
            have c_23' : z_6.toInt = 5 := jb_ne_n (rfl) ((by decide)) c_23
            have hqf := (jQf_ok C a1.toInt).1 (by omega)
            refine lv_iload_n hx hb dX13_matches_164 rfl (lv_at hl 3 rfl) ?_
            refine lv_iconst (v := 1) hx hb dX13_matches_165 (by decide) ?_
            refine lv_iadd hx hb dX13_matches_166 ?_
            refine lv_topi (fun z_24 ez_24 => ?_)
            have hz_24 : z_24.toInt = a3.toInt + 1 := by rw [ez_24]; exact jb_iadd2 (rfl) ((by decide)) (by omega)
            refine lv_goto (tgt := 171) hx hb dX13_matches_167 (by decide) ?_
            exact C171 z_24 _ _ hh_7 (by first | omega | rfl | assumption | decide | exact Or.inl rfl | exact Or.inr rfl | (simp only; omega)) _ (lv_sub hl [0, 1, 2, 3, 4, 5, 6] rfl)
      have C135 : ∀ (H_25 : Heap) (locs_25 : List Loc), jSt (dC, dI) B base G0 G0 EX13_matches s.heap 0 0 [(r0, 15, 5, .int pn), (r0, 15, 11, .int py), (r0, 15, 0, .ref zs), (r0, 15, 1, .ref zn), (r0, 15, 2, .ref za), (r0, 15, 3, .ref zb), (r0, 15, 4, .ref zc), (r0, 15, 14, .ref zy)] [(r4, 169, n4, ca 1, T), (zs, 150, 120000, ca 1, C.s), (zn, 151, 120000, ca 1, C.n), (za, 152, 120000, ca 1, C.a), (zb, 153, 120000, ca 1, C.b), (zc, 154, 120000, ca 1, C.c), (zy, 165, 16, ca 1, C.y)] [] H_25 locs_25 → (7 ≤ jSo C.s a1.toInt ∧ jSo C.s a1.toInt ≤ 10) → ∀ ls : Array Slot, lv_has ls 9 [(0, .ref r0), (1, .int a1), (2, .int a2), (3, .int a3), (4, .ref r4), (5, .int a5), (6, .int z_6)] → W p l e R s m ([.ref r0, .int a1, .int a2, .int a3, .ref r4, .int a5] : List Value).toArray below meth c H_25 locs_25 0 0 Q (F0 m 135 ls []) := by
        intro  H_25 locs_25 hh_25  hi_25 ls hl
        obtain ⟨hi_25_0, hi_25_1⟩ := hi_25
        refine lv_aload_n hx hb dX13_matches_135 rfl (lv_at hl 0 rfl) ?_
        refine j7_read hx hb hown hK (C := RX13) (T := TX13) (N := 50) rfl hly_15_1 hlk_16 (hh_25.at 3 rfl) dX13_matches_136 ?_
        refine lv_iload_n hx hb dX13_matches_139 rfl (lv_at hl 1 rfl) ?_
        refine j7_ialdM hx hb hK hh_25 hB151 1 rfl (by decide) hg_zn (x := a1.toInt) (rfl) (by omega) (j := 2) rfl dX13_matches_140 (fun z_26 ez_26 (hz_26 : True) => ?_)
        have hqz_26 : z_26.toInt = jSo C.n (a1.toInt) := by unfold jSo; rw [ez_26]
        refine lv_aload_n hx hb dX13_matches_141 rfl (lv_at hl 0 rfl) ?_
        refine j7_read hx hb hown hK (C := RX13) (T := TX13) (N := 50) rfl hly_15_1 hlk_16 (hh_25.at 3 rfl) dX13_matches_142 ?_
        refine lv_iload_n hx hb dX13_matches_145 rfl (lv_at hl 2 rfl) ?_
        refine j7_ialdM hx hb hK hh_25 hB151 1 rfl (by decide) hg_zn (x := a2.toInt) (rfl) (by omega) (j := 2) rfl dX13_matches_146 (fun z_27 ez_27 (hz_27 : True) => ?_)
        have hqz_27 : z_27.toInt = jSo C.n (a2.toInt) := by unfold jSo; rw [ez_27]
        refine lv_icmp_eq (tgt := 152) hx hb dX13_matches_147 (by decide) (fun c_28 => ?_) (fun c_28 => ?_)
        · skip
          have c_28' : z_26.toInt = z_27.toInt := jb_eq (rfl) (rfl) c_28
          exact C152  _ _ hh_25 (by first | omega | rfl | assumption | decide | exact Or.inl rfl | exact Or.inr rfl | (simp only; omega)) _ (lv_sub hl [0, 1, 2, 3, 4, 5, 6] rfl)
        · skip
          have c_28' : z_26.toInt ≠ z_27.toInt := jb_eq_n (rfl) (rfl) c_28
          refine lv_iconst (v := 0) hx hb dX13_matches_150 (by decide) ?_
          rw [hQ]
          exact W.zret (v := 0) hx hb hr (jb_nz (Or.inl rfl)) (fun t ht hW => ⟨⟨0, T, rfl, ⟨(Or.inl rfl), by (try dsimp only); first | exact hp3 | exact (zz_none) | exact (zz_none) | exact hp3.set (zz_none) (zz_none) (by omega) (by omega) ((((hp1.mono (by omega : 80 ≤ 1600) (Int.le_refl _)).closed ((zz_none) (by omega)) 0)).tight (by omega : 1600 ≤ 4000) 80 (by omega)) (by omega)⟩, ⟨hh_25.rt (M1 := []) [] rfl ht, by rw [ht]; exact hh_25.2.2.2.2.2.2.2.1.sub [0] rfl⟩⟩, by rw [ht]; try exact hh_25.1.1, fun q h9 hq => by rw [ht]; try exact hh_25.1.2.1 q h9 hq⟩) hh_25.1.2.2 dX13_matches_151
      refine lv_icmp_eq (tgt := 135) hx hb dX13_matches_111 (by decide) (fun c_29 => ?_) (fun c_29 => ?_)
      · skip
        have c_29' : z_6.toInt = 7 := jb_eq (rfl) ((by decide)) c_29
        exact C135  _ _ hh_2 (by first | omega | (refine ⟨?_, ?_⟩ <;> (first | omega | rfl | assumption | decide | exact Or.inl rfl | exact Or.inr rfl | (simp only; omega)))) _ (lv_sub hl [1, 2, 3, 4, 5, 6, 0] rfl)
      · skip
        have c_29' : z_6.toInt ≠ 7 := jb_eq_n (rfl) ((by decide)) c_29
        refine lv_iload hx hb dX13_matches_114 (lv_at hl 0 rfl) ?_
        refine lv_bipush (v := 8) hx hb dX13_matches_116 (by decide) ?_
        refine lv_icmp_eq (tgt := 135) hx hb dX13_matches_118 (by decide) (fun c_30 => ?_) (fun c_30 => ?_)
        · skip
          have c_30' : z_6.toInt = 8 := jb_eq (rfl) ((by decide)) c_30
          exact C135  _ _ hh_2 (by first | omega | (refine ⟨?_, ?_⟩ <;> (first | omega | rfl | assumption | decide | exact Or.inl rfl | exact Or.inr rfl | (simp only; omega)))) _ (lv_sub hl [1, 2, 3, 4, 5, 6, 0] rfl)
        · skip
          have c_30' : z_6.toInt ≠ 8 := jb_eq_n (rfl) ((by decide)) c_30
          refine lv_iload hx hb dX13_matches_121 (lv_at hl 0 rfl) ?_
          refine lv_bipush (v := 9) hx hb dX13_matches_123 (by decide) ?_
          refine lv_icmp_eq (tgt := 135) hx hb dX13_matches_125 (by decide) (fun c_31 => ?_) (fun c_31 => ?_)
          · skip
            have c_31' : z_6.toInt = 9 := jb_eq (rfl) ((by decide)) c_31
            exact C135  _ _ hh_2 (by first | omega | (refine ⟨?_, ?_⟩ <;> (first | omega | rfl | assumption | decide | exact Or.inl rfl | exact Or.inr rfl | (simp only; omega)))) _ (lv_sub hl [1, 2, 3, 4, 5, 6, 0] rfl)
          · skip
            have c_31' : z_6.toInt ≠ 9 := jb_eq_n (rfl) ((by decide)) c_31
            refine lv_iload hx hb dX13_matches_128 (lv_at hl 0 rfl) ?_
            refine lv_bipush (v := 10) hx hb dX13_matches_130 (by decide) ?_
            refine lv_icmp_ne (tgt := 152) hx hb dX13_matches_132 (by decide) (fun c_32 => ?_) (fun c_32 => ?_)
            · skip
              have c_32' : z_6.toInt ≠ 10 := jb_ne (rfl) ((by decide)) c_32
              exact C152  _ _ hh_2 (by first | omega | rfl | assumption | decide | exact Or.inl rfl | exact Or.inr rfl | (simp only; omega)) _ (lv_sub hl [1, 2, 3, 4, 5, 6, 0] rfl)
            · skip
              have c_32' : z_6.toInt = 10 := jb_ne_n (rfl) ((by decide)) c_32
              exact C135  _ _ hh_2 (by first | omega | (refine ⟨?_, ?_⟩ <;> (first | omega | rfl | assumption | decide | exact Or.inl rfl | exact Or.inr rfl | (simp only; omega)))) _ (lv_sub hl [1, 2, 3, 4, 5, 6, 0] rfl)
    · skip
      have c_5' : z_3.toInt ≠ z_4.toInt := jb_eq_n (rfl) (rfl) c_5
      refine lv_iconst (v := 0) hx hb dX13_matches_97 (by decide) ?_
      rw [hQ]
      exact W.zret (v := 0) hx hb hr (jb_nz (Or.inl rfl)) (fun t ht hW => ⟨⟨0, T, rfl, ⟨(Or.inl rfl), by (try dsimp only); first | exact hp3 | exact (zz_none) | exact (zz_none) | exact hp3.set (zz_none) (zz_none) (by omega) (by omega) ((((hp1.mono (by omega : 80 ≤ 1600) (Int.le_refl _)).closed ((zz_none) (by omega)) 0)).tight (by omega : 1600 ≤ 4000) 80 (by omega)) (by omega)⟩, ⟨hh_2.rt (M1 := []) [] rfl ht, by rw [ht]; exact hh_2.2.2.2.2.2.2.2.1.sub [0] rfl⟩⟩, by rw [ht]; try exact hh_2.1.1, fun q h9 hq => by rw [ht]; try exact hh_2.1.2.1 q h9 hq⟩) hh_2.1.2.2 dX13_matches_98
  refine lv_icmp_ne (tgt := 82) hx hb dX13_matches_8 (by decide) (fun c_33 => ?_) (fun c_33 => ?_)
  · skip
    have c_33' : z_1.toInt ≠ 10 := jb_ne (rfl) ((by decide)) c_33
    exact C82  _ _ hh (trivial) _ (lv_sub hl [0, 1, 2, 3, 4, 5] rfl)
  · skip
    have c_33' : z_1.toInt = 10 := jb_ne_n (rfl) ((by decide)) c_33
    refine lv_aload_n hx hb dX13_matches_11 rfl (lv_at hl 0 rfl) ?_
    refine j7_read hx hb hown hK (C := RX13) (T := TX13) (N := 50) rfl hly_15_1 hlk_16 (hh.at 3 rfl) dX13_matches_12 ?_
    refine lv_iload_n hx hb dX13_matches_15 rfl (lv_at hl 1 rfl) ?_
    refine j7_ialdM hx hb hK hh hB151 1 rfl (by decide) hg_zn (x := a1.toInt) (rfl) (by omega) (j := 2) rfl dX13_matches_16 (fun z_34 ez_34 (hz_34 : True) => ?_)
    have hqz_34 : z_34.toInt = jSo C.n (a1.toInt) := by unfold jSo; rw [ez_34]
    refine lv_iload_n hx hb dX13_matches_17 rfl (lv_at hl 3 rfl) ?_
    refine lv_icmp_lt (tgt := 82) hx hb dX13_matches_18 (by decide) (fun c_35 => ?_) (fun c_35 => ?_)
    · skip
      have c_35' : z_34.toInt < a3.toInt := jb_lt (rfl) (rfl) c_35
      exact C82  _ _ hh (trivial) _ (lv_sub hl [0, 1, 2, 3, 4, 5] rfl)
    · skip
      have c_35' : z_34.toInt ≥ a3.toInt := jb_lt_n (rfl) (rfl) c_35
      have hb10 := hp0.bnd (by omega)
      refine lv_iload hx hb dX13_matches_21 (lv_at hl 5 rfl) ?_
      refine lv_iconst (v := 1) hx hb dX13_matches_23 (by decide) ?_
      refine lv_isub hx hb dX13_matches_24 ?_
      refine lv_topi (fun z_36 ez_36 => ?_)
      have hz_36 : z_36.toInt = a5.toInt - 1 := by rw [ez_36]; exact jb_isub2 (rfl) ((by decide)) (by omega)
      refine lv_aload_n hx hb dX13_matches_25 rfl (lv_at hl 0 rfl) ?_
      refine j7_read hx hb hown hK (C := RX13) (T := TX13) (N := 50) rfl hly_15_1 hlk_16 (hh.at 3 rfl) dX13_matches_26 ?_
      refine lv_iload_n hx hb dX13_matches_29 rfl (lv_at hl 1 rfl) ?_
      refine j7_ialdM hx hb hK hh hB151 1 rfl (by decide) hg_zn (x := a1.toInt) (rfl) (by omega) (j := 2) rfl dX13_matches_30 (fun z_37 ez_37 (hz_37 : True) => ?_)
      have hqz_37 : z_37.toInt = jSo C.n (a1.toInt) := by unfold jSo; rw [ez_37]
      refine lv_iload_n hx hb dX13_matches_31 rfl (lv_at hl 3 rfl) ?_
      refine lv_isub hx hb dX13_matches_32 ?_
      refine lv_topi (fun z_38 ez_38 => ?_)
      have hz_38 : z_38.toInt = z_37.toInt - a3.toInt := by rw [ez_38]; exact jb_isub2 (rfl) (rfl) (by omega)
      refine lv_isub hx hb dX13_matches_33 ?_
      refine lv_topi (fun z_39 ez_39 => ?_)
      have hz_39 : z_39.toInt = z_36.toInt - z_38.toInt := by rw [ez_39]; exact jb_isub2 (rfl) (rfl) (by omega)
      refine lv_istore (lv' := [(6, .int z_39), (0, .ref r0), (1, .int a1), (2, .int a2), (3, .int a3), (4, .ref r4), (5, .int a5)]) hx hb dX13_matches_34 hl (by decide) rfl (fun ls hl => ?_)
      refine lv_aload_n hx hb dX13_matches_36 rfl (lv_at hl 1 rfl) ?_
      refine j7_read hx hb hown hK (C := RX13) (T := TX13) (N := 50) rfl hly_15_0 hlk_12 (hh.at 2 rfl) dX13_matches_37 ?_
      refine lv_iload_n hx hb dX13_matches_40 rfl (lv_at hl 3 rfl) ?_
      refine j7_ialdM hx hb hK hh hB150 1 rfl (by decide) hg_zs (x := a2.toInt) (rfl) (by omega) (j := 1) rfl dX13_matches_41 (fun z_40 ez_40 (hz_40 : True) => ?_)
      have hqz_40 : z_40.toInt = jSo C.s (a2.toInt) := by unfold jSo; rw [ez_40]
      refine lv_bipush (v := 8) hx hb dX13_matches_42 (by decide) ?_
      refine lv_icmp_lt (tgt := 55) hx hb dX13_matches_44 (by decide) (fun c_41 => ?_) (fun c_41 => ?_)
      · skip
        have c_41' : z_40.toInt < 8 := jb_lt (rfl) ((by decide)) c_41
        refine lv_iconst (v := 0) hx hb dX13_matches_55 (by decide) ?_
        rw [hQ]
        exact W.zret (v := 0) hx hb hr (jb_nz (Or.inl rfl)) (fun t ht hW => ⟨⟨0, T, rfl, ⟨(Or.inl rfl), by (try dsimp only); first | exact hp3 | exact (zz_none) | exact (zz_none) | exact hp3.set (zz_none) (zz_none) (by omega) (by omega) ((((hp1.mono (by omega : 80 ≤ 1600) (Int.le_refl _)).closed ((zz_none) (by omega)) 0)).tight (by omega : 1600 ≤ 4000) 80 (by omega)) (by omega)⟩, ⟨hh.rt (M1 := []) [] rfl ht, by rw [ht]; exact hh.2.2.2.2.2.2.2.1.sub [0] rfl⟩⟩, by rw [ht]; try exact hh.1.1, fun q h9 hq => by rw [ht]; try exact hh.1.2.1 q h9 hq⟩) hh.1.2.2 dX13_matches_56
      · skip
        have c_41' : z_40.toInt ≥ 8 := jb_lt_n (rfl) ((by decide)) c_41
        refine lv_aload_n hx hb dX13_matches_47 rfl (lv_at hl 1 rfl) ?_
        refine lv_iload_n hx hb dX13_matches_48 rfl (lv_at hl 3 rfl) ?_
        refine va_calli (A0 := jA base) (H0 := s.heap) (va_runV (As := [.int a2]) (rest := []) ⟨hx, hb, hml, hown, hts⟩ (aX13_hasBound l dC dI ca base B hB hAp hB15 hB150 hB151 hB152 hB153 hB154 hB165 1600 G0 s.heap r0 a2 zs zn za zb zc zy C) (cwV 1 hts (jgV (jWr_68 _ (List.mem_of_getElem? (i := 11) rfl)) (jWr_68 _ (List.mem_of_getElem? (i := 12) rfl)) (jWr_68 _ (List.mem_of_getElem? (i := 13) rfl)) (jWr_12 _ (List.mem_of_getElem? (i := 12) rfl)) (jWr_68 _ (List.mem_of_getElem? (i := 14) rfl))) rfl rfl rfl (by decide +kernel) ⟨by rw [← hR]; show (1603) + 1 ≤ d + 1620; omega, by rw [← hR]; show 8 + (3 + 11) + (64200) ≤ 60 * d + 67000; omega⟩) ⟨fun a U g mk q => by obtain ⟨q0, q1, q2, qK, q10, q11, q12, q13, q14, q15, q16, q17, q18, q19⟩ := q; exact ⟨q0, q1, q2, jG.calling g mk a qK, q10, q11, q12, q13, q14, q15, q16, q17, q18, q19⟩, hh.recv (C := RX13) (T := TX13) (N := 50) hB15 rfl (by decide) hg_r0 hK, fun U hU hW => ⟨rfl, hU, hh.2.1, hG.step hW hU hh.1, hg_r0, hg_zs, hg_zn, hg_za, hg_zb, hg_zc, hg_zy, (hh.2.2.1.sub (L1 := [(r0, 15, 0, .ref zs), (r0, 15, 1, .ref zn), (r0, 15, 2, .ref za), (r0, 15, 3, .ref zb), (r0, 15, 4, .ref zc), (r0, 15, 14, .ref zy)]) [2, 3, 4, 5, 6, 7] rfl), (hh.2.2.2.2.2.2.2.1.sub (L1 := [(zs, 150, 120000, ca 1, C.s), (zn, 151, 120000, ca 1, C.n), (za, 152, 120000, ca 1, C.a), (zb, 153, 120000, ca 1, C.b), (zc, 154, 120000, ca 1, C.c), (zy, 165, 16, ca 1, C.y)]) [1, 2, 3, 4, 5, 6] rfl), ⟨(by first | assumption | exact (hp1.tr (by omega) (by omega)).mono (by omega) | omega), (by first | omega | rfl | assumption | exact (hp1.tr (by omega) (by omega)).mono (by omega))⟩⟩⟩ rfl rfl hl.1 rfl (lv_room (Nat.le_of_ble_eq_true rfl)) dX13_matches_49 ⟨Nat.zero_le _, Nat.zero_le _⟩) hh.1 (fun q _ h => h) (fun q h => h) (fun r_43 u_42 t_42 H_42 locs_42 ht_42 hvm_42 hr_43 hb_42 hz_42 hk_42 hS_42 => ?_)
        rw [ht_42] at hb_42
        obtain ⟨hb_421, hb_422, hb_423, hb_424, hb_425⟩ := hb_42
        have hh_42 : jSt (dC, dI) B base G0 G0 EX13_matches s.heap 0 0 [(r0, 15, 5, .int pn), (r0, 15, 11, .int py), (r0, 15, 0, .ref zs), (r0, 15, 1, .ref zn), (r0, 15, 2, .ref za), (r0, 15, 3, .ref zb), (r0, 15, 4, .ref zc), (r0, 15, 14, .ref zy)] [(r4, 169, n4, ca 1, T), (zs, 150, 120000, ca 1, C.s), (zn, 151, 120000, ca 1, C.n), (za, 152, 120000, ca 1, C.a), (zb, 153, 120000, ca 1, C.b), (zc, 154, 120000, ca 1, C.c), (zy, 165, 16, ca 1, C.y)] [] H_42 locs_42 := ((hh.call hb_421 hb_422 hb_423 hb_424 hS_42 rfl (L1 := [(r0, 15, 5, .int pn), (r0, 15, 11, .int py), (r0, 15, 0, .ref zs), (r0, 15, 1, .ref zn), (r0, 15, 2, .ref za), (r0, 15, 3, .ref zb), (r0, 15, 4, .ref zc), (r0, 15, 14, .ref zy)]) [0, 1, 2, 3, 4, 5, 6, 7] rfl rfl (M1 := [(r4, 169, n4, ca 1, T), (zs, 150, 120000, ca 1, C.s), (zn, 151, 120000, ca 1, C.n), (za, 152, 120000, ca 1, C.a), (zb, 153, 120000, ca 1, C.b), (zc, 154, 120000, ca 1, C.c), (zy, 165, 16, ca 1, C.y)]) [0, 1, 2, 3, 4, 5, 6] rfl rfl (I1 := []) [] rfl rfl).more hb_425)
        clear hh ht_42 hvm_42 hz_42 hk_42 hS_42 hb_421 hb_422 hb_423 hb_424 hb_425
        obtain ⟨hr_43b, hr_43p⟩ := hr_43
        have hr_43' := jb_01 hr_43b
        refine lv_if_eq (tgt := 57) hx hb dX13_matches_52 (by decide) (fun c_44 => ?_) (fun c_44 => ?_)
        · skip
          have c_44' : r_43.toInt = 0 := jb_eq (rfl) ((by decide)) c_44
          refine lv_aload hx hb dX13_matches_57 (lv_at hl 5 rfl) ?_
          refine lv_iload hx hb dX13_matches_59 (lv_at hl 0 rfl) ?_
          refine j7_ialdM hx hb hK hh_42 hB169 1 rfl (by decide) hg_r4 (x := z_39.toInt) (rfl) (by omega) (j := 0) rfl dX13_matches_61 (fun z_45 ez_45 (hz_45 : True) => ?_)
          have hqz_45 : z_45.toInt = jSo T (((a5.toInt - 1) - (z_37.toInt - a3.toInt))) := by unfold jSo; rw [ez_45, show z_39.toInt = ((a5.toInt - 1) - (z_37.toInt - a3.toInt)) by omega]
          refine lv_if_ge (tgt := 71) hx hb dX13_matches_62 (by decide) (fun c_46 => ?_) (fun c_46 => ?_)
          · skip
            have c_46' : z_45.toInt ≥ 0 := jb_ge (rfl) ((by decide)) c_46
            refine lv_aload_n hx hb dX13_matches_71 rfl (lv_at hl 1 rfl) ?_
            refine lv_aload hx hb dX13_matches_72 (lv_at hl 5 rfl) ?_
            refine lv_iload hx hb dX13_matches_74 (lv_at hl 0 rfl) ?_
            refine j7_ialdM hx hb hK hh_42 hB169 1 rfl (by decide) hg_r4 (x := z_39.toInt) (rfl) (by omega) (j := 0) rfl dX13_matches_76 (fun z_47 ez_47 (hz_47 : True) => ?_)
            have hqz_47 : z_47.toInt = jSo T (((a5.toInt - 1) - (z_37.toInt - a3.toInt))) := by unfold jSo; rw [ez_47, show z_39.toInt = ((a5.toInt - 1) - (z_37.toInt - a3.toInt)) by omega]
            refine lv_iload_n hx hb dX13_matches_77 rfl (lv_at hl 3 rfl) ?_
            refine va_calli (A0 := jA base) (H0 := s.heap) (va_runV (As := [.int z_47, .int a2]) (rest := []) ⟨hx, hb, hml, hown, hts⟩ (aX13_isSame l dC dI ca base B hB hAp hB15 hB150 hB151 hB152 hB153 hB154 hB165 80 G0 H_42 r0 z_47 a2 zs zn za zb zc zy C) (cwV 2 hts (jgV (jWr_67 _ (List.mem_of_getElem? (i := 11) rfl)) (jWr_67 _ (List.mem_of_getElem? (i := 12) rfl)) (jWr_67 _ (List.mem_of_getElem? (i := 13) rfl)) (jWr_12 _ (List.mem_of_getElem? (i := 12) rfl)) (jWr_67 _ (List.mem_of_getElem? (i := 14) rfl))) rfl rfl rfl (by decide +kernel) ⟨by rw [← hR]; show (83) + 1 ≤ d + 1620; omega, by rw [← hR]; show 8 + (5 + 11) + (3400) ≤ 60 * d + 67000; omega⟩) ⟨fun a U g mk q => by obtain ⟨q0, q1, q2, qK, q10, q11, q12, q13, q14, q15, q16, q17, q18, q19⟩ := q; exact ⟨q0, q1, q2, jG.calling g mk a qK, q10, q11, q12, q13, q14, q15, q16, q17, q18, q19⟩, hh_42.recv (C := RX13) (T := TX13) (N := 50) hB15 rfl (by decide) hg_r0 hK, fun U hU hW => ⟨rfl, hU, hh_42.2.1, hG.step hW hU hh_42.1, hg_r0, hg_zs, hg_zn, hg_za, hg_zb, hg_zc, hg_zy, (hh_42.2.2.1.sub (L1 := [(r0, 15, 0, .ref zs), (r0, 15, 1, .ref zn), (r0, 15, 2, .ref za), (r0, 15, 3, .ref zb), (r0, 15, 4, .ref zc), (r0, 15, 14, .ref zy)]) [2, 3, 4, 5, 6, 7] rfl), (hh_42.2.2.2.2.2.2.2.1.sub (L1 := [(zs, 150, 120000, ca 1, C.s), (zn, 151, 120000, ca 1, C.n), (za, 152, 120000, ca 1, C.a), (zb, 153, 120000, ca 1, C.b), (zc, 154, 120000, ca 1, C.c), (zy, 165, 16, ca 1, C.y)]) [1, 2, 3, 4, 5, 6] rfl), ⟨(by first | assumption | exact hp1.tr (by omega) (by omega) | (rw [hqz_47, (zz_none)]; exact hp1.tr (by omega) (by omega)) | (rw [hqz_47]; exact ((hp3 _ (by omega) (by omega)).resolve_left (by omega)).1.tr (by omega) (by omega)) | omega), (by first | assumption | exact hp1.tr (by omega) (by omega) | (rw [hqz_47, (zz_none)]; exact hp1.tr (by omega) (by omega)) | (rw [hqz_47]; exact ((hp3 _ (by omega) (by omega)).resolve_left (by omega)).1.tr (by omega) (by omega)) | omega), (by first | omega | rfl | assumption | exact hp1.tr (by omega) (by omega) | (rw [hqz_47, (zz_none)]; exact hp1.tr (by omega) (by omega)) | (rw [hqz_47]; exact ((hp3 _ (by omega) (by omega)).resolve_left (by omega)).1.tr (by omega) (by omega)))⟩⟩⟩ rfl rfl hl.1 rfl (lv_room (Nat.le_of_ble_eq_true rfl)) dX13_matches_78 ⟨Nat.zero_le _, Nat.zero_le _⟩) hh_42.1 (fun q _ h => h) (fun q h => h) (fun r_49 u_48 t_48 H_48 locs_48 ht_48 hvm_48 hr_49 hb_48 hz_48 hk_48 hS_48 => ?_)
            rw [ht_48] at hb_48
            obtain ⟨hb_481, hb_482, hb_483, hb_484, hb_485⟩ := hb_48
            have hh_48 : jSt (dC, dI) B base G0 G0 EX13_matches s.heap 0 0 [(r0, 15, 5, .int pn), (r0, 15, 11, .int py), (r0, 15, 0, .ref zs), (r0, 15, 1, .ref zn), (r0, 15, 2, .ref za), (r0, 15, 3, .ref zb), (r0, 15, 4, .ref zc), (r0, 15, 14, .ref zy)] [(r4, 169, n4, ca 1, T), (zs, 150, 120000, ca 1, C.s), (zn, 151, 120000, ca 1, C.n), (za, 152, 120000, ca 1, C.a), (zb, 153, 120000, ca 1, C.b), (zc, 154, 120000, ca 1, C.c), (zy, 165, 16, ca 1, C.y)] [] H_48 locs_48 := ((hh_42.call hb_481 hb_482 hb_483 hb_484 hS_48 rfl (L1 := [(r0, 15, 5, .int pn), (r0, 15, 11, .int py), (r0, 15, 0, .ref zs), (r0, 15, 1, .ref zn), (r0, 15, 2, .ref za), (r0, 15, 3, .ref zb), (r0, 15, 4, .ref zc), (r0, 15, 14, .ref zy)]) [0, 1, 2, 3, 4, 5, 6, 7] rfl rfl (M1 := [(r4, 169, n4, ca 1, T), (zs, 150, 120000, ca 1, C.s), (zn, 151, 120000, ca 1, C.n), (za, 152, 120000, ca 1, C.a), (zb, 153, 120000, ca 1, C.b), (zc, 154, 120000, ca 1, C.c), (zy, 165, 16, ca 1, C.y)]) [0, 1, 2, 3, 4, 5, 6] rfl rfl (I1 := []) [] rfl rfl).more hb_485)
            clear hh_42 ht_48 hvm_48 hz_48 hk_48 hS_48 hb_481 hb_482 hb_483 hb_484 hb_485
            obtain ⟨hr_49b, hr_49p⟩ := hr_49
            have hr_49' := jb_01 hr_49b
            rw [hQ]
            exact W.zret (v := r_49) hx hb hr (jb_nz (hr_49b)) (fun t ht hW => ⟨⟨r_49, T, rfl, ⟨(hr_49b), by (try dsimp only); first | exact hp3 | exact (zz_none) | exact (zz_none) | exact hp3.set (zz_none) (zz_none) (by omega) (by omega) ((((hp1.mono (by omega : 80 ≤ 1600) (Int.le_refl _)).closed (hr_43p (by omega)) 0)).tight (by omega : 1600 ≤ 4000) 80 (by omega)) (by omega)⟩, ⟨hh_48.rt (M1 := []) [] rfl ht, by rw [ht]; exact hh_48.2.2.2.2.2.2.2.1.sub [0] rfl⟩⟩, by rw [ht]; try exact hh_48.1.1, fun q h9 hq => by rw [ht]; try exact hh_48.1.2.1 q h9 hq⟩) hh_48.1.2.2 dX13_matches_81
          · skip
            have c_46' : z_45.toInt < 0 := jb_ge_n (rfl) ((by decide)) c_46
            refine lv_aload hx hb dX13_matches_65 (lv_at hl 5 rfl) ?_
            refine lv_iload hx hb dX13_matches_67 (lv_at hl 0 rfl) ?_
            refine lv_iload_n hx hb dX13_matches_69 rfl (lv_at hl 3 rfl) ?_
            refine j7_iastU hx hb hK hh_42 hB hB169 1 rfl (by decide) (by decide) rfl 0 rfl (M1 := [(zs, 150, 120000, ca 1, C.s), (zn, 151, 120000, ca 1, C.n), (za, 152, 120000, ca 1, C.a), (zb, 153, 120000, ca 1, C.b), (zc, 154, 120000, ca 1, C.c), (zy, 165, 16, ca 1, C.y)]) [1, 2, 3, 4, 5, 6] rfl rfl rfl hg_r4 (x := z_39.toInt) (rfl) (by omega) (trivial) dX13_matches_70 (fun H_50 locs_50 fs_51 hv_50 ho_50 hh_50 => ?_)
            have hv_50 : jSo fs_51 (z_39.toInt) = a2.toInt := by unfold jSo; rw [hv_50]; try exact rfl
            rw [show z_39.toInt = ((a5.toInt - 1) - (z_37.toInt - a3.toInt)) by omega] at hv_50 ho_50
            clear hh_42
            refine lv_aload_n hx hb dX13_matches_71 rfl (lv_at hl 1 rfl) ?_
            refine lv_aload hx hb dX13_matches_72 (lv_at hl 5 rfl) ?_
            refine lv_iload hx hb dX13_matches_74 (lv_at hl 0 rfl) ?_
            refine j7_ialdM hx hb hK hh_50 hB169 1 rfl (by decide) hg_r4 (x := z_39.toInt) (rfl) (by omega) (j := 0) rfl dX13_matches_76 (fun z_52 ez_52 (hz_52 : True) => ?_)
            have hqz_52 : z_52.toInt = jSo fs_51 (((a5.toInt - 1) - (z_37.toInt - a3.toInt))) := by unfold jSo; rw [ez_52, show z_39.toInt = ((a5.toInt - 1) - (z_37.toInt - a3.toInt)) by omega]
            refine lv_iload_n hx hb dX13_matches_77 rfl (lv_at hl 3 rfl) ?_
            refine va_calli (A0 := jA base) (H0 := s.heap) (va_runV (As := [.int z_52, .int a2]) (rest := []) ⟨hx, hb, hml, hown, hts⟩ (aX13_isSame l dC dI ca base B hB hAp hB15 hB150 hB151 hB152 hB153 hB154 hB165 80 G0 H_50 r0 z_52 a2 zs zn za zb zc zy C) (cwV 2 hts (jgV (jWr_67 _ (List.mem_of_getElem? (i := 11) rfl)) (jWr_67 _ (List.mem_of_getElem? (i := 12) rfl)) (jWr_67 _ (List.mem_of_getElem? (i := 13) rfl)) (jWr_12 _ (List.mem_of_getElem? (i := 12) rfl)) (jWr_67 _ (List.mem_of_getElem? (i := 14) rfl))) rfl rfl rfl (by decide +kernel) ⟨by rw [← hR]; show (83) + 1 ≤ d + 1620; omega, by rw [← hR]; show 8 + (5 + 11) + (3400) ≤ 60 * d + 67000; omega⟩) ⟨fun a U g mk q => by obtain ⟨q0, q1, q2, qK, q10, q11, q12, q13, q14, q15, q16, q17, q18, q19⟩ := q; exact ⟨q0, q1, q2, jG.calling g mk a qK, q10, q11, q12, q13, q14, q15, q16, q17, q18, q19⟩, hh_50.recv (C := RX13) (T := TX13) (N := 50) hB15 rfl (by decide) hg_r0 hK, fun U hU hW => ⟨rfl, hU, hh_50.2.1, hG.step hW hU hh_50.1, hg_r0, hg_zs, hg_zn, hg_za, hg_zb, hg_zc, hg_zy, (hh_50.2.2.1.sub (L1 := [(r0, 15, 0, .ref zs), (r0, 15, 1, .ref zn), (r0, 15, 2, .ref za), (r0, 15, 3, .ref zb), (r0, 15, 4, .ref zc), (r0, 15, 14, .ref zy)]) [2, 3, 4, 5, 6, 7] rfl), (hh_50.2.2.2.2.2.2.2.1.sub (L1 := [(zs, 150, 120000, ca 1, C.s), (zn, 151, 120000, ca 1, C.n), (za, 152, 120000, ca 1, C.a), (zb, 153, 120000, ca 1, C.b), (zc, 154, 120000, ca 1, C.c), (zy, 165, 16, ca 1, C.y)]) [1, 2, 3, 4, 5, 6] rfl), ⟨(by first | assumption | exact hp1.tr (by omega) (by omega) | (rw [hqz_52, hv_50]; exact hp1.tr (by omega) (by omega)) | (rw [hqz_52]; exact ((hp3 _ (by omega) (by omega)).resolve_left (by omega)).1.tr (by omega) (by omega)) | omega), (by first | assumption | exact hp1.tr (by omega) (by omega) | (rw [hqz_52, hv_50]; exact hp1.tr (by omega) (by omega)) | (rw [hqz_52]; exact ((hp3 _ (by omega) (by omega)).resolve_left (by omega)).1.tr (by omega) (by omega)) | omega), (by first | omega | rfl | assumption | exact hp1.tr (by omega) (by omega) | (rw [hqz_52, hv_50]; exact hp1.tr (by omega) (by omega)) | (rw [hqz_52]; exact ((hp3 _ (by omega) (by omega)).resolve_left (by omega)).1.tr (by omega) (by omega)))⟩⟩⟩ rfl rfl hl.1 rfl (lv_room (Nat.le_of_ble_eq_true rfl)) dX13_matches_78 ⟨Nat.zero_le _, Nat.zero_le _⟩) hh_50.1 (fun q _ h => h) (fun q h => h) (fun r_54 u_53 t_53 H_53 locs_53 ht_53 hvm_53 hr_54 hb_53 hz_53 hk_53 hS_53 => ?_)
            rw [ht_53] at hb_53
            obtain ⟨hb_531, hb_532, hb_533, hb_534, hb_535⟩ := hb_53
            have hh_53 : jSt (dC, dI) B base G0 G0 EX13_matches s.heap 0 0 [(r0, 15, 5, .int pn), (r0, 15, 11, .int py), (r0, 15, 0, .ref zs), (r0, 15, 1, .ref zn), (r0, 15, 2, .ref za), (r0, 15, 3, .ref zb), (r0, 15, 4, .ref zc), (r0, 15, 14, .ref zy)] [(r4, 169, n4, ca 1, fs_51), (zs, 150, 120000, ca 1, C.s), (zn, 151, 120000, ca 1, C.n), (za, 152, 120000, ca 1, C.a), (zb, 153, 120000, ca 1, C.b), (zc, 154, 120000, ca 1, C.c), (zy, 165, 16, ca 1, C.y)] [] H_53 locs_53 := ((hh_50.call hb_531 hb_532 hb_533 hb_534 hS_53 rfl (L1 := [(r0, 15, 5, .int pn), (r0, 15, 11, .int py), (r0, 15, 0, .ref zs), (r0, 15, 1, .ref zn), (r0, 15, 2, .ref za), (r0, 15, 3, .ref zb), (r0, 15, 4, .ref zc), (r0, 15, 14, .ref zy)]) [0, 1, 2, 3, 4, 5, 6, 7] rfl rfl (M1 := [(r4, 169, n4, ca 1, fs_51), (zs, 150, 120000, ca 1, C.s), (zn, 151, 120000, ca 1, C.n), (za, 152, 120000, ca 1, C.a), (zb, 153, 120000, ca 1, C.b), (zc, 154, 120000, ca 1, C.c), (zy, 165, 16, ca 1, C.y)]) [0, 1, 2, 3, 4, 5, 6] rfl rfl (I1 := []) [] rfl rfl).more hb_535)
            clear hh_50 ht_53 hvm_53 hz_53 hk_53 hS_53 hb_531 hb_532 hb_533 hb_534 hb_535
            obtain ⟨hr_54b, hr_54p⟩ := hr_54
            have hr_54' := jb_01 hr_54b
            rw [hQ]
            exact W.zret (v := r_54) hx hb hr (jb_nz (hr_54b)) (fun t ht hW => ⟨⟨r_54, fs_51, rfl, ⟨(hr_54b), by (try dsimp only); first | exact hp3 | exact (zz_none) | exact (zz_none) | exact hp3.set ho_50 hv_50 (by omega) (by omega) ((((hp1.mono (by omega : 80 ≤ 1600) (Int.le_refl _)).closed (hr_43p (by omega)) 0)).tight (by omega : 1600 ≤ 4000) 80 (by omega)) (by omega)⟩, ⟨hh_53.rt (M1 := []) [] rfl ht, by rw [ht]; exact hh_53.2.2.2.2.2.2.2.1.sub [0] rfl⟩⟩, by rw [ht]; try exact hh_53.1.1, fun q h9 hq => by rw [ht]; try exact hh_53.1.2.1 q h9 hq⟩) hh_53.1.2.2 dX13_matches_81
        · skip
          have c_44' : r_43.toInt ≠ 0 := jb_eq_n (rfl) ((by decide)) c_44
          refine lv_iconst (v := 0) hx hb dX13_matches_55 (by decide) ?_
          rw [hQ]
          exact W.zret (v := 0) hx hb hr (jb_nz (Or.inl rfl)) (fun t ht hW => ⟨⟨0, T, rfl, ⟨(Or.inl rfl), by (try dsimp only); first | exact hp3 | exact (zz_none) | exact (zz_none) | exact hp3.set (zz_none) (zz_none) (by omega) (by omega) ((((hp1.mono (by omega : 80 ≤ 1600) (Int.le_refl _)).closed (hr_43p (by omega)) 0)).tight (by omega : 1600 ≤ 4000) 80 (by omega)) (by omega)⟩, ⟨hh_42.rt (M1 := []) [] rfl ht, by rw [ht]; exact hh_42.2.2.2.2.2.2.2.1.sub [0] rfl⟩⟩, by rw [ht]; try exact hh_42.1.1, fun q h9 hq => by rw [ht]; try exact hh_42.1.2.1 q h9 hq⟩) hh_42.1.2.2 dX13_matches_56
theorem aX13_matches (l : Launch) (dC : Nat → ClassId) (dI : Nat → Nat → Nat) (ca : Nat → ClassId) (base : Nat) (B : jF) (hB : jBok B) (hAp : jAp (dC, dI)) (hB15 : ∀ n G a H, B 15 n G a H ↔ jOb (dC, dI) 15 50 (F15 n G) a H) (hB150 : ∀ n G a H, B 150 n G a H ↔ jAr (dC, dI) (ca 1) (fun j z => True) n a H) (hB151 : ∀ n G a H, B 151 n G a H ↔ jAr (dC, dI) (ca 1) (fun j z => True) n a H) (hB152 : ∀ n G a H, B 152 n G a H ↔ jAr (dC, dI) (ca 1) (fun j z => True) n a H) (hB153 : ∀ n G a H, B 153 n G a H ↔ jAr (dC, dI) (ca 1) (fun j z => True) n a H) (hB154 : ∀ n G a H, B 154 n G a H ↔ jAr (dC, dI) (ca 1) (fun j z => True) n a H) (hB165 : ∀ n G a H, B 165 n G a H ↔ jAr (dC, dI) (ca 1) (fun j z => 0 ≤ z.toInt ∧ z.toInt ≤ 3) n a H) (hB169 : ∀ n G a H, B 169 n G a H ↔ jAr (dC, dI) (ca 1) (fun j z => True) n a H) : ∀ ef, qX13_matches l dC dI ca base B ef := fun ef => Nat.strongRecOn ef (fun e ih => fun G0 H0 r0 a1 a2 a3 r4 a5 n4 pn py zs zn za zb zc zy T C => uX13_matches l dC dI ca base B hB hAp hB15 hB150 hB151 hB152 hB153 hB154 hB165 hB169 e ih G0 H0 r0 a1 a2 a3 r4 a5 n4 pn py zs zn za zb zc zy T C)
end
section
-- goals, hypotheses, facts of the reference's kernel: slots of arrays
theorem jTu1.two {fg fh fp gg gh gp : Nat → Int32} {p n v : Int} (h : jTu1 fg fh fp gg gh gp p n v) (hv : v = 0) : jTu2 fg fh fp gg gh gp p n 1 := by
  subst hv
  exact ⟨h.1, fun j g0 g1 => by rw [show j = 0 by omega]; exact h.2 0 (by omega) (by omega)⟩
def jTm (fg fh fp gg gh gp : Nat → Int32) (p q n : Int) : Prop := (∀ j : Int, 0 ≤ j → j < q → ∃ i : Int, 0 ≤ i ∧ i < p ∧ jSe fg fh fp gg gh gp i j) ∧ ∀ j : Int, 0 ≤ j → j < n → jSe fg fh fp gg gh gp 0 j
theorem jT0.tm {fg fh fp gg gh gp : Nat → Int32} {p q v n : Int} (h : jT0 fg fh fp gg gh gp p v) (hv : v = p - 1) (hq : q = p - 1) (hn : n ≤ 0) : jTm fg fh fp gg gh gp p q n := ⟨fun j g0 g1 => ⟨j + 1, by omega, by omega, h.1 j g0 (by omega)⟩, fun j g0 g1 => by omega⟩
theorem jTu2.tm {fg fh fp gg gh gp : Nat → Int32} {p q n v : Int} (h : jTu2 fg fh fp gg gh gp p n v) (hv : n ≤ v) (hq : q = p + n - 1) (hp : 1 ≤ p) : jTm fg fh fp gg gh gp p q n := by
  refine ⟨fun j g0 g1 => ?_, fun j g0 g1 => h.2 j g0 (by omega)⟩
  by_cases q : j < n
  · exact ⟨0, by omega, by omega, h.2 j g0 (by omega)⟩
  · have := h.1 (j - n + 1) (by omega) (by omega)
    rw [show j - n + 1 + n - 1 = j by omega] at this
    exact ⟨j - n + 1, by omega, by omega, this⟩
theorem jDq.dh {fh gh f g : Nat → Int32} {x h v : Int} (hq : jDq f g x h v) (hU : jUpd 46 fh gh x (jSo fh x - 1)) (h0 : 0 ≤ h) (h1 : jSo fh x ≤ v + 1) (h8 : jSo fh x ≤ 8) : jDh fh f gh g x := by
  refine ⟨hU, fun k g0 g1 => ?_, hq.2⟩
  by_cases w : k < h
  · exact ⟨k, g0, by omega, (hq.1 k g0 (by omega)).1 (Or.inl w)⟩
  · exact ⟨k + 1, by omega, by omega, (hq.1 k g0 (by omega)).2 (by omega)⟩
-- what is good of all slots
theorem jSe.sl {P : Int → Prop} {fg fh fp gg gh gp : Nat → Int32} {i j : Int} (hs : jSe fg fh fp gg gh gp i j) (h : jSl P fg fh fp i) : jSl P gg gh gp j := by
  refine ⟨by rw [hs.1]; exact h.1, by rw [hs.2.1]; exact h.2.1, by rw [hs.2.1]; exact h.2.2.1, fun k g0 g1 => ?_⟩
  rw [hs.2.1] at g1
  rw [hs.2.2 k g0 (by have := h.2.2.1; omega)]
  exact h.2.2.2 k g0 g1
theorem jGl.times {P : Int → Prop} {fg fh fp gg gh gp : Nat → Int32} {p q n : Int} (h : jGl P fg fh fp p) (ht : jTm fg fh fp gg gh gp p q n) : jGl P gg gh gp q := fun g g0 g1 => by
  obtain ⟨i, h0, h1, h2⟩ := ht.1 g g0 g1
  exact h2.sl (h i h0 h1)
theorem jGl.set {P : Int → Prop} {fg fh fp gg : Nat → Int32} {n i x : Int} (h : jGl P fg fh fp n) (hU : jUpd 46 fg gg i x) (hx : P x) (hn : n ≤ 46) : jGl P gg fh fp n := fun g g0 g1 => by
  obtain ⟨h1, h2⟩ := h g g0 g1
  refine ⟨?_, h2⟩
  by_cases q : g = i
  · rw [q, hU.1]; exact hx
  · rw [hU.2 g g0 (by omega) q]; exact h1
end
