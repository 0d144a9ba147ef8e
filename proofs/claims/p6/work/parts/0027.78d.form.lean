section
theorem dX13_with_0 : decode cX13_with 0 = .ok (.aload_n 0, 1) := by decide +kernel
theorem dX13_with_1 : decode cX13_with 1 = .ok (.getfield 12, 3) := by decide +kernel
theorem dX13_with_4 : decode cX13_with 4 = .ok (.iload_n 1, 1) := by decide +kernel
theorem dX13_with_5 : decode cX13_with 5 = .ok (.iaload, 1) := by decide +kernel
theorem dX13_with_6 : decode cX13_with 6 = .ok (.bipush 10, 2) := by decide +kernel
theorem dX13_with_8 : decode cX13_with 8 = .ok (.if_icmp .ne 42, 3) := by decide +kernel
theorem dX13_with_11 : decode cX13_with 11 = .ok (.aload_n 0, 1) := by decide +kernel
theorem dX13_with_12 : decode cX13_with 12 = .ok (.getfield 16, 3) := by decide +kernel
theorem dX13_with_15 : decode cX13_with 15 = .ok (.iload_n 1, 1) := by decide +kernel
theorem dX13_with_16 : decode cX13_with 16 = .ok (.iaload, 1) := by decide +kernel
theorem dX13_with_17 : decode cX13_with 17 = .ok (.iload_n 2, 1) := by decide +kernel
theorem dX13_with_18 : decode cX13_with 18 = .ok (.if_icmp .lt 32, 3) := by decide +kernel
theorem dX13_with_21 : decode cX13_with 21 = .ok (.aload_n 0, 1) := by decide +kernel
theorem dX13_with_22 : decode cX13_with 22 = .ok (.getfield 16, 3) := by decide +kernel
theorem dX13_with_25 : decode cX13_with 25 = .ok (.iload_n 1, 1) := by decide +kernel
theorem dX13_with_26 : decode cX13_with 26 = .ok (.iaload, 1) := by decide +kernel
theorem dX13_with_27 : decode cX13_with 27 = .ok (.iload_n 2, 1) := by decide +kernel
theorem dX13_with_28 : decode cX13_with 28 = .ok (.iload 4, 2) := by decide +kernel
theorem dX13_with_30 : decode cX13_with 30 = .ok (.iadd, 1) := by decide +kernel
theorem dX13_with_31 : decode cX13_with 31 = .ok (.if_icmp .ge 19, 3) := by decide +kernel
theorem dX13_with_34 : decode cX13_with 34 = .ok (.aload_n 3, 1) := by decide +kernel
theorem dX13_with_35 : decode cX13_with 35 = .ok (.iload 4, 2) := by decide +kernel
theorem dX13_with_37 : decode cX13_with 37 = .ok (.iconst 1, 1) := by decide +kernel
theorem dX13_with_38 : decode cX13_with 38 = .ok (.isub, 1) := by decide +kernel
theorem dX13_with_39 : decode cX13_with 39 = .ok (.aload_n 0, 1) := by decide +kernel
theorem dX13_with_40 : decode cX13_with 40 = .ok (.getfield 16, 3) := by decide +kernel
theorem dX13_with_43 : decode cX13_with 43 = .ok (.iload_n 1, 1) := by decide +kernel
theorem dX13_with_44 : decode cX13_with 44 = .ok (.iaload, 1) := by decide +kernel
theorem dX13_with_45 : decode cX13_with 45 = .ok (.isub, 1) := by decide +kernel
theorem dX13_with_46 : decode cX13_with 46 = .ok (.iload_n 2, 1) := by decide +kernel
theorem dX13_with_47 : decode cX13_with 47 = .ok (.iadd, 1) := by decide +kernel
theorem dX13_with_48 : decode cX13_with 48 = .ok (.iaload, 1) := by decide +kernel
theorem dX13_with_49 : decode cX13_with 49 = .ok (.ireturn, 1) := by decide +kernel
theorem dX13_with_50 : decode cX13_with 50 = .ok (.aload_n 0, 1) := by decide +kernel
theorem dX13_with_51 : decode cX13_with 51 = .ok (.getfield 12, 3) := by decide +kernel
theorem dX13_with_54 : decode cX13_with 54 = .ok (.iload_n 1, 1) := by decide +kernel
theorem dX13_with_55 : decode cX13_with 55 = .ok (.iaload, 1) := by decide +kernel
theorem dX13_with_56 : decode cX13_with 56 = .ok (.iconst 4, 1) := by decide +kernel
theorem dX13_with_57 : decode cX13_with 57 = .ok (.if_icmp .eq 13, 3) := by decide +kernel
theorem dX13_with_60 : decode cX13_with 60 = .ok (.aload_n 0, 1) := by decide +kernel
theorem dX13_with_61 : decode cX13_with 61 = .ok (.getfield 12, 3) := by decide +kernel
theorem dX13_with_64 : decode cX13_with 64 = .ok (.iload_n 1, 1) := by decide +kernel
theorem dX13_with_65 : decode cX13_with 65 = .ok (.iaload, 1) := by decide +kernel
theorem dX13_with_66 : decode cX13_with 66 = .ok (.iconst 5, 1) := by decide +kernel
theorem dX13_with_67 : decode cX13_with 67 = .ok (.if_icmp .ne 9, 3) := by decide +kernel
theorem dX13_with_70 : decode cX13_with 70 = .ok (.iload_n 2, 1) := by decide +kernel
theorem dX13_with_71 : decode cX13_with 71 = .ok (.iconst 1, 1) := by decide +kernel
theorem dX13_with_72 : decode cX13_with 72 = .ok (.iadd, 1) := by decide +kernel
theorem dX13_with_73 : decode cX13_with 73 = .ok (.goto 4, 3) := by decide +kernel
theorem dX13_with_76 : decode cX13_with 76 = .ok (.iload_n 2, 1) := by decide +kernel
theorem dX13_with_77 : decode cX13_with 77 = .ok (.istore 5, 2) := by decide +kernel
theorem dX13_with_79 : decode cX13_with 79 = .ok (.aload_n 0, 1) := by decide +kernel
theorem dX13_with_80 : decode cX13_with 80 = .ok (.iload_n 1, 1) := by decide +kernel
theorem dX13_with_81 : decode cX13_with 81 = .ok (.invokevirtual 252, 3) := by decide +kernel
theorem dX13_with_84 : decode cX13_with 84 = .ok (.istore 6, 2) := by decide +kernel
theorem dX13_with_86 : decode cX13_with 86 = .ok (.iload 6, 2) := by decide +kernel
theorem dX13_with_88 : decode cX13_with 88 = .ok (.ifCond .ne 5, 3) := by decide +kernel
theorem dX13_with_91 : decode cX13_with 91 = .ok (.iload_n 1, 1) := by decide +kernel
theorem dX13_with_92 : decode cX13_with 92 = .ok (.ireturn, 1) := by decide +kernel
theorem dX13_with_93 : decode cX13_with 93 = .ok (.aload_n 0, 1) := by decide +kernel
theorem dX13_with_94 : decode cX13_with 94 = .ok (.aload_n 0, 1) := by decide +kernel
theorem dX13_with_95 : decode cX13_with 95 = .ok (.getfield 19, 3) := by decide +kernel
theorem dX13_with_98 : decode cX13_with 98 = .ok (.iload_n 1, 1) := by decide +kernel
theorem dX13_with_99 : decode cX13_with 99 = .ok (.iaload, 1) := by decide +kernel
theorem dX13_with_100 : decode cX13_with 100 = .ok (.iload 5, 2) := by decide +kernel
theorem dX13_with_102 : decode cX13_with 102 = .ok (.aload_n 3, 1) := by decide +kernel
theorem dX13_with_103 : decode cX13_with 103 = .ok (.iload 4, 2) := by decide +kernel
theorem dX13_with_105 : decode cX13_with 105 = .ok (.invokevirtual 270, 3) := by decide +kernel
theorem dX13_with_108 : decode cX13_with 108 = .ok (.istore 7, 2) := by decide +kernel
theorem dX13_with_110 : decode cX13_with 110 = .ok (.iload 6, 2) := by decide +kernel
theorem dX13_with_112 : decode cX13_with 112 = .ok (.iconst 1, 1) := by decide +kernel
theorem dX13_with_113 : decode cX13_with 113 = .ok (.if_icmp .le 21, 3) := by decide +kernel
theorem dX13_with_116 : decode cX13_with 116 = .ok (.aload_n 0, 1) := by decide +kernel
theorem dX13_with_117 : decode cX13_with 117 = .ok (.aload_n 0, 1) := by decide +kernel
theorem dX13_with_118 : decode cX13_with 118 = .ok (.getfield 22, 3) := by decide +kernel
theorem dX13_with_121 : decode cX13_with 121 = .ok (.iload_n 1, 1) := by decide +kernel
theorem dX13_with_122 : decode cX13_with 122 = .ok (.iaload, 1) := by decide +kernel
theorem dX13_with_123 : decode cX13_with 123 = .ok (.iload 5, 2) := by decide +kernel
theorem dX13_with_125 : decode cX13_with 125 = .ok (.aload_n 3, 1) := by decide +kernel
theorem dX13_with_126 : decode cX13_with 126 = .ok (.iload 4, 2) := by decide +kernel
theorem dX13_with_128 : decode cX13_with 128 = .ok (.invokevirtual 270, 3) := by decide +kernel
theorem dX13_with_131 : decode cX13_with 131 = .ok (.goto 4, 3) := by decide +kernel
theorem dX13_with_134 : decode cX13_with 134 = .ok (.iconst 0, 1) := by decide +kernel
theorem dX13_with_135 : decode cX13_with 135 = .ok (.istore 8, 2) := by decide +kernel
theorem dX13_with_137 : decode cX13_with 137 = .ok (.aload_n 0, 1) := by decide +kernel
theorem dX13_with_138 : decode cX13_with 138 = .ok (.aload_n 0, 1) := by decide +kernel
theorem dX13_with_139 : decode cX13_with 139 = .ok (.getfield 12, 3) := by decide +kernel
theorem dX13_with_142 : decode cX13_with 142 = .ok (.iload_n 1, 1) := by decide +kernel
theorem dX13_with_143 : decode cX13_with 143 = .ok (.iaload, 1) := by decide +kernel
theorem dX13_with_144 : decode cX13_with 144 = .ok (.aload_n 0, 1) := by decide +kernel
theorem dX13_with_145 : decode cX13_with 145 = .ok (.getfield 16, 3) := by decide +kernel
theorem dX13_with_148 : decode cX13_with 148 = .ok (.iload_n 1, 1) := by decide +kernel
theorem dX13_with_149 : decode cX13_with 149 = .ok (.iaload, 1) := by decide +kernel
theorem dX13_with_150 : decode cX13_with 150 = .ok (.iload 7, 2) := by decide +kernel
theorem dX13_with_152 : decode cX13_with 152 = .ok (.iload 8, 2) := by decide +kernel
theorem dX13_with_154 : decode cX13_with 154 = .ok (.iload 6, 2) := by decide +kernel
theorem dX13_with_156 : decode cX13_with 156 = .ok (.iconst 2, 1) := by decide +kernel
theorem dX13_with_157 : decode cX13_with 157 = .ok (.if_icmp .le 21, 3) := by decide +kernel
theorem dX13_with_160 : decode cX13_with 160 = .ok (.aload_n 0, 1) := by decide +kernel
theorem dX13_with_161 : decode cX13_with 161 = .ok (.aload_n 0, 1) := by decide +kernel
theorem dX13_with_162 : decode cX13_with 162 = .ok (.getfield 25, 3) := by decide +kernel
theorem dX13_with_165 : decode cX13_with 165 = .ok (.iload_n 1, 1) := by decide +kernel
theorem dX13_with_166 : decode cX13_with 166 = .ok (.iaload, 1) := by decide +kernel
theorem dX13_with_167 : decode cX13_with 167 = .ok (.iload 5, 2) := by decide +kernel
theorem dX13_with_169 : decode cX13_with 169 = .ok (.aload_n 3, 1) := by decide +kernel
theorem dX13_with_170 : decode cX13_with 170 = .ok (.iload 4, 2) := by decide +kernel
theorem dX13_with_172 : decode cX13_with 172 = .ok (.invokevirtual 270, 3) := by decide +kernel
theorem dX13_with_175 : decode cX13_with 175 = .ok (.goto 4, 3) := by decide +kernel
theorem dX13_with_178 : decode cX13_with 178 = .ok (.iconst 0, 1) := by decide +kernel
theorem dX13_with_179 : decode cX13_with 179 = .ok (.invokevirtual 197, 3) := by decide +kernel
theorem dX13_with_182 : decode cX13_with 182 = .ok (.ireturn, 1) := by decide +kernel
def EX13_with : List (Nat × Nat) := [(15, 5), (150, 0), (151, 0), (152, 0), (153, 0), (154, 0)]
def qX13_with (l : Launch) (dC : Nat → ClassId) (dI : Nat → Nat → Nat) (ca : Nat → ClassId) (base : Nat) (B : jF) (d : Nat) : Prop := ∀ (G0 : jT) (H0 : Heap) (r0 : Nat) (a1 : Int32) (a2 : Int32) (r3 : Nat) (a4 : Int32) (n3 : Nat) (pn : Int32) (py : Int32) (zs : Nat) (zn : Nat) (za : Nat) (zb : Nat) (zc : Nat) (zy : Nat) (T : Nat → Int32) (C : jK), Met l yX13_with (jw yX13_with cX13_with 9 (some .int)) ({ frames := d + 20, cells := 0, slots := 0, locals := 60 * d + 400 }) (va_Pc [.ref r0, .int a1, .int a2, .ref r3, .int a4] (fun U => U.heap = H0 ∧ jX B base G0 [] H0 ∧ jG dC dI ca base U ∧ G0 r3 = some (169, n3) ∧ G0 r0 = some (15, 0) ∧ G0 zs = some (150, 120000) ∧ G0 zn = some (151, 120000) ∧ G0 za = some (152, 120000) ∧ G0 zb = some (153, 120000) ∧ G0 zc = some (154, 120000) ∧ G0 zy = some (165, 16) ∧ jP (dC, dI) G0 H0 [(r0, 15, 5, .int pn), (r0, 15, 11, .int py), (r0, 15, 0, .ref zs), (r0, 15, 1, .ref zn), (r0, 15, 2, .ref za), (r0, 15, 3, .ref zb), (r0, 15, 4, .ref zc), (r0, 15, 14, .ref zy)] ∧ jMc (dC, dI) G0 H0 [(r3, 169, n3, ca 1, T), (zs, 150, 120000, ca 1, C.s), (zn, 151, 120000, ca 1, C.n), (za, 152, 120000, ca 1, C.a), (zb, 153, 120000, ca 1, C.b), (zc, 154, 120000, ca 1, C.c), (zy, 165, 16, ca 1, C.y)] ∧ jFm C pn.toInt py.toInt d (a2.toInt + a4.toInt) a1.toInt ∧ jTs C pn.toInt py.toInt 1600 T a4.toInt ∧ d ≤ 100 ∧ 0 ≤ a2.toInt ∧ a2.toInt + d ≤ 2000 ∧ 0 ≤ a4.toInt ∧ a4.toInt ≤ n3 ∧ n3 ≤ 100 ∧ 0 ≤ pn.toInt ∧ pn.toInt + jSw C T a4.toInt a2.toInt a1.toInt ≤ 119999 ∧ 0 ≤ py.toInt ∧ py.toInt ≤ 16)) (va_Qi (S := Int32 × jK) (fun r u => (pn.toInt ≤ u.1.toInt ∧ u.1.toInt ≤ pn.toInt + jSw C T a4.toInt a2.toInt a1.toInt ∧ jAgK C u.2 pn.toInt ∧ jFm u.2 u.1.toInt py.toInt (d + 1600) a2.toInt r.toInt ∧ jsz u.2 r.toInt = jSw C T a4.toInt a2.toInt a1.toInt)) (fun u t => jRt (dC, dI) B base G0 EX13_with H0 [(r0, 15, 5, .int u.1)] t.heap ∧ jMc (dC, dI) G0 t.heap [(zs, 150, 120000, ca 1, u.2.s), (zn, 151, 120000, ca 1, u.2.n), (za, 152, 120000, ca 1, u.2.a), (zb, 153, 120000, ca 1, u.2.b), (zc, 154, 120000, ca 1, u.2.c), (zy, 165, 16, ca 1, u.2.y)]) (jA base)) 0 0 (jA base)
set_option maxHeartbeats 4000000 in
set_option maxRecDepth 20000 in
theorem uX13_with (l : Launch) (dC : Nat → ClassId) (dI : Nat → Nat → Nat) (ca : Nat → ClassId) (base : Nat) (B : jF) (hB : jBok B) (hAp : jAp (dC, dI)) (hB15 : ∀ n G a H, B 15 n G a H ↔ jOb (dC, dI) 15 50 (F15 n G) a H) (hB150 : ∀ n G a H, B 150 n G a H ↔ jAr (dC, dI) (ca 1) (fun j z => True) n a H) (hB151 : ∀ n G a H, B 151 n G a H ↔ jAr (dC, dI) (ca 1) (fun j z => True) n a H) (hB152 : ∀ n G a H, B 152 n G a H ↔ jAr (dC, dI) (ca 1) (fun j z => True) n a H) (hB153 : ∀ n G a H, B 153 n G a H ↔ jAr (dC, dI) (ca 1) (fun j z => True) n a H) (hB154 : ∀ n G a H, B 154 n G a H ↔ jAr (dC, dI) (ca 1) (fun j z => True) n a H) (hB165 : ∀ n G a H, B 165 n G a H ↔ jAr (dC, dI) (ca 1) (fun j z => 0 ≤ z.toInt ∧ z.toInt ≤ 3) n a H) (hB169 : ∀ n G a H, B 169 n G a H ↔ jAr (dC, dI) (ca 1) (fun j z => True) n a H) (d : Nat) (ih : ∀ d1, d1 < d → qX13_with l dC dI ca base B d1) (G0 : jT) (H0 : Heap) (r0 : Nat) (a1 : Int32) (a2 : Int32) (r3 : Nat) (a4 : Int32) (n3 : Nat) (pn : Int32) (py : Int32) (zs : Nat) (zn : Nat) (za : Nat) (zb : Nat) (zc : Nat) (zy : Nat) (T : Nat → Int32) (C : jK) : Met l yX13_with (jw yX13_with cX13_with 9 (some .int)) ({ frames := d + 20, cells := 0, slots := 0, locals := 60 * d + 400 }) (va_Pc [.ref r0, .int a1, .int a2, .ref r3, .int a4] (fun U => U.heap = H0 ∧ jX B base G0 [] H0 ∧ jG dC dI ca base U ∧ G0 r3 = some (169, n3) ∧ G0 r0 = some (15, 0) ∧ G0 zs = some (150, 120000) ∧ G0 zn = some (151, 120000) ∧ G0 za = some (152, 120000) ∧ G0 zb = some (153, 120000) ∧ G0 zc = some (154, 120000) ∧ G0 zy = some (165, 16) ∧ jP (dC, dI) G0 H0 [(r0, 15, 5, .int pn), (r0, 15, 11, .int py), (r0, 15, 0, .ref zs), (r0, 15, 1, .ref zn), (r0, 15, 2, .ref za), (r0, 15, 3, .ref zb), (r0, 15, 4, .ref zc), (r0, 15, 14, .ref zy)] ∧ jMc (dC, dI) G0 H0 [(r3, 169, n3, ca 1, T), (zs, 150, 120000, ca 1, C.s), (zn, 151, 120000, ca 1, C.n), (za, 152, 120000, ca 1, C.a), (zb, 153, 120000, ca 1, C.b), (zc, 154, 120000, ca 1, C.c), (zy, 165, 16, ca 1, C.y)] ∧ jFm C pn.toInt py.toInt d (a2.toInt + a4.toInt) a1.toInt ∧ jTs C pn.toInt py.toInt 1600 T a4.toInt ∧ d ≤ 100 ∧ 0 ≤ a2.toInt ∧ a2.toInt + d ≤ 2000 ∧ 0 ≤ a4.toInt ∧ a4.toInt ≤ n3 ∧ n3 ≤ 100 ∧ 0 ≤ pn.toInt ∧ pn.toInt + jSw C T a4.toInt a2.toInt a1.toInt ≤ 119999 ∧ 0 ≤ py.toInt ∧ py.toInt ≤ 16)) (va_Qi (S := Int32 × jK) (fun r u => (pn.toInt ≤ u.1.toInt ∧ u.1.toInt ≤ pn.toInt + jSw C T a4.toInt a2.toInt a1.toInt ∧ jAgK C u.2 pn.toInt ∧ jFm u.2 u.1.toInt py.toInt (d + 1600) a2.toInt r.toInt ∧ jsz u.2 r.toInt = jSw C T a4.toInt a2.toInt a1.toInt)) (fun u t => jRt (dC, dI) B base G0 EX13_with H0 [(r0, 15, 5, .int u.1)] t.heap ∧ jMc (dC, dI) G0 t.heap [(zs, 150, 120000, ca 1, u.2.s), (zn, 151, 120000, ca 1, u.2.n), (za, 152, 120000, ca 1, u.2.a), (zb, 153, 120000, ca 1, u.2.b), (zc, 154, 120000, ca 1, u.2.c), (zy, 165, 16, ca 1, u.2.y)]) (jA base)) 0 0 (jA base) := by
  refine Met.ofW (cc := cX13_with) (maxL := 9) (ret := (some .int)) (by decide) rfl ?_
  intro p e s m args below meth c s₁ Bd hml hv
  obtain ⟨rfl, hH0, hX, hG, hg_r3, hg_r0, hg_zs, hg_zn, hg_za, hg_zb, hg_zc, hg_zy, hP0, hM0, hp0, hp1, hp2, hp3, hp4, hp5, hp6, hp7, hp8, hp9, hp10, hp11⟩ := hv
  have hK := hG.1
  have hx := Bd.exec
  have hb := Bd.bytes
  have hr := Bd.returns
  have hts := atoms_spec (ws := (jw yX13_with cX13_with 9 (some .int))) Bd.pre
  have htw : ∀ w ∈ jWl, w.before _ s = true := fun w h => hts w (List.mem_cons_of_mem _ h)
  have hown : s.vm.findClass RX13 = some m.cls := findClass_of_methodNamed Bd.named
  have hlocks := Bd.notSynchronized
  obtain ⟨Q, hQ⟩ : ∃ Q, Q = MQ below (va_Qi (S := Int32 × jK) (fun r u => (pn.toInt ≤ u.1.toInt ∧ u.1.toInt ≤ pn.toInt + jSw C T a4.toInt a2.toInt a1.toInt ∧ jAgK C u.2 pn.toInt ∧ jFm u.2 u.1.toInt py.toInt (d + 1600) a2.toInt r.toInt ∧ jsz u.2 r.toInt = jSw C T a4.toInt a2.toInt a1.toInt)) (fun u t => jRt (dC, dI) B base G0 EX13_with H0 [(r0, 15, 5, .int u.1)] t.heap ∧ jMc (dC, dI) G0 t.heap [(zs, 150, 120000, ca 1, u.2.s), (zn, 151, 120000, ca 1, u.2.n), (za, 152, 120000, ca 1, u.2.a), (zb, 153, 120000, ca 1, u.2.b), (zc, 154, 120000, ca 1, u.2.c), (zy, 165, 16, ca 1, u.2.y)]) (jA base)) ([.ref r0, .int a1, .int a2, .ref r3, .int a4] : List Value).toArray s 0 0 (jA base) := ⟨_, rfl⟩
  rw [← hQ]
  have hl := lv_entry ([.ref r0, .int a1, .int a2, .ref r3, .int a4]) (n := 9) (Nat.le_of_ble_eq_true rfl)
  rw [lg_entry_eq]
  generalize (lg_sl ([.ref r0, .int a1, .int a2, .ref r3, .int a4]) ++ List.replicate (9 - (lg_sl ([.ref r0, .int a1, .int a2, .ref r3, .int a4])).length) Slot.unset).toArray = ls at hl ⊢
  have hl : lv_has ls 9 [(0, .ref r0), (1, .int a1), (2, .int a2), (3, .ref r3), (4, .int a4)] := hl
  generalize hR : (headSpec (jw yX13_with cX13_with 9 (some .int)) ({ frames := d + 20, cells := 0, slots := 0, locals := 60 * d + 400 })).room = R
  subst hH0
  have hh : jSt (dC, dI) B base G0 G0 EX13_with s.heap 0 0 [(r0, 15, 5, .int pn), (r0, 15, 11, .int py), (r0, 15, 0, .ref zs), (r0, 15, 1, .ref zn), (r0, 15, 2, .ref za), (r0, 15, 3, .ref zb), (r0, 15, 4, .ref zc), (r0, 15, 14, .ref zy)] [(r3, 169, n3, ca 1, T), (zs, 150, 120000, ca 1, C.s), (zn, 151, 120000, ca 1, C.n), (za, 152, 120000, ca 1, C.a), (zb, 153, 120000, ca 1, C.b), (zc, 154, 120000, ca 1, C.c), (zy, 165, 16, ca 1, C.y)] [] s.heap [] := jSt.start hX hP0 hM0 jIs.nil
  clear hX hP0
  have hk0 : (0 : Int32).toInt = 0 := by decide
  have hk1 : (1 : Int32).toInt = 1 := by decide
  have hk2 : (2 : Int32).toInt = 2 := by decide
  have hk4 : (4 : Int32).toInt = 4 := by decide
  have hk5 : (5 : Int32).toInt = 5 := by decide
  have hk10 : (10 : Int32).toInt = 10 := by decide
  have hly_15_0 := htw (u_lay RX13 TX13 0) (jWc_wsX130 _ (u_in_lay (by decide)))
  have hly_15_1 := htw (u_lay RX13 TX13 1) (jWc_wsX130 _ (u_in_lay (by decide)))
  have hly_15_2 := htw (u_lay RX13 TX13 2) (jWc_wsX130 _ (u_in_lay (by decide)))
  have hly_15_3 := htw (u_lay RX13 TX13 3) (jWc_wsX130 _ (u_in_lay (by decide)))
  have hly_15_4 := htw (u_lay RX13 TX13 4) (jWc_wsX130 _ (u_in_lay (by decide)))
  have hlk_12 := (htw (.fieldLink RX13 12 "ProofServerModel$Kernel" "sort" "[I") (jWr_14 _ (List.mem_of_getElem? (i := 9) rfl)))
  have hlk_16 := (htw (.fieldLink RX13 16 "ProofServerModel$Kernel" "name" "[I") (jWr_14 _ (List.mem_of_getElem? (i := 10) rfl)))
  have hlk_19 := (htw (.fieldLink RX13 19 "ProofServerModel$Kernel" "one" "[I") (jWr_14 _ (List.mem_of_getElem? (i := 11) rfl)))
  have hlk_22 := (htw (.fieldLink RX13 22 "ProofServerModel$Kernel" "two" "[I") (jWr_14 _ (List.mem_of_getElem? (i := 12) rfl)))
  have hlk_25 := (htw (.fieldLink RX13 25 "ProofServerModel$Kernel" "three" "[I") (jWr_14 _ (List.mem_of_getElem? (i := 13) rfl)))
  have hrg_a1 := jb_rng a1
  have hrg_a2 := jb_rng a2
  have hrg_a4 := jb_rng a4
  obtain ⟨g1, g2, g3, g4, -, -, -, g8, g9⟩ := hp0.nd
  have hpos := hp0.pos
  have hsw0 := jSw_nn C T a4.toInt a2.toInt a1.toInt
  refine lv_aload_n hx hb dX13_with_0 rfl (lv_at hl 0 rfl) ?_
  refine j7_read hx hb hown hK (C := RX13) (T := TX13) (N := 50) rfl hly_15_0 hlk_12 (hh.at 2 rfl) dX13_with_1 ?_
  refine lv_iload_n hx hb dX13_with_4 rfl (lv_at hl 1 rfl) ?_
  refine j7_ialdM hx hb hK hh hB150 1 rfl (by decide) hg_zs (x := a1.toInt) (rfl) (by omega) (j := 1) rfl dX13_with_5 (fun z_1 ez_1 (hz_1 : True) => ?_)
  have hqz_1 : z_1.toInt = jSo C.s (a1.toInt) := by unfold jSo; rw [ez_1]
  refine lv_bipush (v := 10) hx hb dX13_with_6 (by decide) ?_
  have C50 : ∀ (H_2 : Heap) (locs_2 : List Loc), jSt (dC, dI) B base G0 G0 EX13_with s.heap 0 0 [(r0, 15, 5, .int pn), (r0, 15, 11, .int py), (r0, 15, 0, .ref zs), (r0, 15, 1, .ref zn), (r0, 15, 2, .ref za), (r0, 15, 3, .ref zb), (r0, 15, 4, .ref zc), (r0, 15, 14, .ref zy)] [(r3, 169, n3, ca 1, T), (zs, 150, 120000, ca 1, C.s), (zn, 151, 120000, ca 1, C.n), (za, 152, 120000, ca 1, C.a), (zb, 153, 120000, ca 1, C.b), (zc, 154, 120000, ca 1, C.c), (zy, 165, 16, ca 1, C.y)] [] H_2 locs_2 → ((jSo C.s a1.toInt = 10 → jSo C.n a1.toInt < a2.toInt)) → ∀ ls : Array Slot, lv_has ls 9 [(0, .ref r0), (1, .int a1), (2, .int a2), (3, .ref r3), (4, .int a4)] → W p l e R s m ([.ref r0, .int a1, .int a2, .ref r3, .int a4] : List Value).toArray below meth c H_2 locs_2 0 0 Q (F0 m 50 ls []) := by
    intro  H_2 locs_2 hh_2  hi_2 ls hl
    have hst := jSw_step (T := T) (m := a4.toInt) hp0 (by omega) a2.toInt
    rw [if_neg (by omega)] at hst
    refine lv_aload_n hx hb dX13_with_50 rfl (lv_at hl 0 rfl) ?_
    refine j7_read hx hb hown hK (C := RX13) (T := TX13) (N := 50) rfl hly_15_0 hlk_12 (hh_2.at 2 rfl) dX13_with_51 ?_
    refine lv_iload_n hx hb dX13_with_54 rfl (lv_at hl 1 rfl) ?_
    refine j7_ialdM hx hb hK hh_2 hB150 1 rfl (by decide) hg_zs (x := a1.toInt) (rfl) (by omega) (j := 1) rfl dX13_with_55 (fun z_3 ez_3 (hz_3 : True) => ?_)
    have hqz_3 : z_3.toInt = jSo C.s (a1.toInt) := by unfold jSo; rw [ez_3]
    refine lv_iconst (v := 4) hx hb dX13_with_56 (by decide) ?_
    have C77 : ∀ (w0_4 : Int32) (H_4 : Heap) (locs_4 : List Loc), jSt (dC, dI) B base G0 G0 EX13_with s.heap 0 0 [(r0, 15, 5, .int pn), (r0, 15, 11, .int py), (r0, 15, 0, .ref zs), (r0, 15, 1, .ref zn), (r0, 15, 2, .ref za), (r0, 15, 3, .ref zb), (r0, 15, 4, .ref zc), (r0, 15, 14, .ref zy)] [(r3, 169, n3, ca 1, T), (zs, 150, 120000, ca 1, C.s), (zn, 151, 120000, ca 1, C.n), (za, 152, 120000, ca 1, C.a), (zb, 153, 120000, ca 1, C.b), (zc, 154, 120000, ca 1, C.c), (zy, 165, 16, ca 1, C.y)] [] H_4 locs_4 → (w0_4.toInt = a2.toInt + jQf C a1.toInt) → ∀ ls : Array Slot, lv_has ls 9 [(0, .ref r0), (1, .int a1), (2, .int a2), (3, .ref r3), (4, .int a4)] → W p l e R s m ([.ref r0, .int a1, .int a2, .ref r3, .int a4] : List Value).toArray below meth c H_4 locs_4 0 0 Q (F0 m 77 ls [.int w0_4]) := by
      intro w0_4 H_4 locs_4 hh_4  hi_4 ls hl
      have hq01 := (jQf_ok C a1.toInt).2.2
      refine lv_istore (lv' := [(5, .int w0_4), (0, .ref r0), (1, .int a1), (2, .int a2), (3, .ref r3), (4, .int a4)]) hx hb dX13_with_77 hl (by decide) rfl (fun ls hl => ?_)
      refine lv_aload_n hx hb dX13_with_79 rfl (lv_at hl 1 rfl) ?_
      refine lv_iload_n hx hb dX13_with_80 rfl (lv_at hl 2 rfl) ?_
      refine va_calli (A0 := jA base) (H0 := s.heap) (va_runV (As := [.int a1]) (rest := []) ⟨hx, hb, hml, hown, hts⟩ (uX13_parts l dC dI ca base B hB hAp hB15 hB150 hB151 hB152 hB153 hB154 hB165 G0 H_4 r0 a1 zs zn za zb zc zy C) (cwV 1 hts (jgV (jWr_65 _ (List.mem_of_getElem? (i := 15) rfl)) (jWr_65 _ (List.mem_of_getElem? (i := 16) rfl)) (jWr_65 _ (List.mem_of_getElem? (i := 17) rfl)) (jWr_12 _ (List.mem_of_getElem? (i := 12) rfl)) (jWr_65 _ (List.mem_of_getElem? (i := 18) rfl))) rfl rfl rfl (by decide +kernel) ⟨by rw [← hR]; show (0) + 1 ≤ d + 20; omega, by rw [← hR]; show 8 + (3 + 11) + (0) ≤ 60 * d + 400; omega⟩) ⟨fun a U g mk q => by obtain ⟨q0, q1, q2, qK, q10, q11, q12, q13, q14, q15, q16, q17, q18, q19⟩ := q; exact ⟨q0, q1, q2, jG.calling g mk a qK, q10, q11, q12, q13, q14, q15, q16, q17, q18, q19⟩, hh_4.recv (C := RX13) (T := TX13) (N := 50) hB15 rfl (by decide) hg_r0 hK, fun U hU hW => ⟨rfl, hU, hh_4.2.1, hG.step hW hU hh_4.1, hg_r0, hg_zs, hg_zn, hg_za, hg_zb, hg_zc, hg_zy, (hh_4.2.2.1.sub (L1 := [(r0, 15, 0, .ref zs), (r0, 15, 1, .ref zn), (r0, 15, 2, .ref za), (r0, 15, 3, .ref zb), (r0, 15, 4, .ref zc), (r0, 15, 14, .ref zy)]) [2, 3, 4, 5, 6, 7] rfl), (hh_4.2.2.2.2.2.2.2.1.sub (L1 := [(zs, 150, 120000, ca 1, C.s), (zn, 151, 120000, ca 1, C.n), (za, 152, 120000, ca 1, C.a), (zb, 153, 120000, ca 1, C.b), (zc, 154, 120000, ca 1, C.c), (zy, 165, 16, ca 1, C.y)]) [1, 2, 3, 4, 5, 6] rfl), ⟨(by first | omega | rfl | assumption | exact hp0.sym (by omega)), (by first | omega | rfl | assumption | exact hp0.sym (by omega)), (by first | assumption | exact hp0.sym (by omega) | omega)⟩⟩⟩ rfl rfl hl.1 rfl (lv_room (Nat.le_of_ble_eq_true rfl)) dX13_with_81 ⟨Nat.zero_le _, Nat.zero_le _⟩) hh_4.1 (fun q _ h => h) (fun q h => h) (fun r_6 u_5 t_5 H_5 locs_5 ht_5 hvm_5 hr_6 hb_5 hz_5 hk_5 hS_5 => ?_)
      rw [ht_5] at hb_5
      obtain ⟨hb_51, hb_52, hb_53, hb_54, hb_55⟩ := hb_5
      have hh_5 : jSt (dC, dI) B base G0 G0 EX13_with s.heap 0 0 [(r0, 15, 5, .int pn), (r0, 15, 11, .int py), (r0, 15, 0, .ref zs), (r0, 15, 1, .ref zn), (r0, 15, 2, .ref za), (r0, 15, 3, .ref zb), (r0, 15, 4, .ref zc), (r0, 15, 14, .ref zy)] [(r3, 169, n3, ca 1, T), (zs, 150, 120000, ca 1, C.s), (zn, 151, 120000, ca 1, C.n), (za, 152, 120000, ca 1, C.a), (zb, 153, 120000, ca 1, C.b), (zc, 154, 120000, ca 1, C.c), (zy, 165, 16, ca 1, C.y)] [] H_5 locs_5 := ((hh_4.call hb_51 hb_52 hb_53 hb_54 hS_5 rfl (L1 := [(r0, 15, 5, .int pn), (r0, 15, 11, .int py), (r0, 15, 0, .ref zs), (r0, 15, 1, .ref zn), (r0, 15, 2, .ref za), (r0, 15, 3, .ref zb), (r0, 15, 4, .ref zc), (r0, 15, 14, .ref zy)]) [0, 1, 2, 3, 4, 5, 6, 7] rfl rfl (M1 := [(r3, 169, n3, ca 1, T), (zs, 150, 120000, ca 1, C.s), (zn, 151, 120000, ca 1, C.n), (za, 152, 120000, ca 1, C.a), (zb, 153, 120000, ca 1, C.b), (zc, 154, 120000, ca 1, C.c), (zy, 165, 16, ca 1, C.y)]) [0, 1, 2, 3, 4, 5, 6] rfl rfl (I1 := []) [] rfl rfl).more hb_55)
      clear hh_4 ht_5 hvm_5 hz_5 hk_5 hS_5 hb_51 hb_52 hb_53 hb_54 hb_55
      obtain ⟨hr_6_0, hr_6_1, hr_6_2⟩ := hr_6
      refine lv_istore (lv' := [(6, .int r_6), (5, .int w0_4), (0, .ref r0), (1, .int a1), (2, .int a2), (3, .ref r3), (4, .int a4)]) hx hb dX13_with_84 hl (by decide) rfl (fun ls hl => ?_)
      refine lv_iload hx hb dX13_with_86 (lv_at hl 0 rfl) ?_
      refine lv_if_ne (tgt := 93) hx hb dX13_with_88 (by decide) (fun c_7 => ?_) (fun c_7 => ?_)
      · skip
        have c_7' : r_6.toInt ≠ 0 := jb_ne (rfl) ((by decide)) c_7
        have y0 := jSwK_a C T a4.toInt a2.toInt a1.toInt (jPts C a1.toInt) (by omega) (by omega)
        have hn0 := jSw_nn C T a4.toInt (a2.toInt + jQf C a1.toInt) (jSo C.a a1.toInt)
        refine lv_aload_n hx hb dX13_with_93 rfl (lv_at hl 2 rfl) ?_
        refine lv_aload_n hx hb dX13_with_94 rfl (lv_at hl 2 rfl) ?_
        refine j7_read hx hb hown hK (C := RX13) (T := TX13) (N := 50) rfl hly_15_2 hlk_19 (hh_5.at 4 rfl) dX13_with_95 ?_
        refine lv_iload_n hx hb dX13_with_98 rfl (lv_at hl 3 rfl) ?_
        refine j7_ialdM hx hb hK hh_5 hB152 1 rfl (by decide) hg_za (x := a1.toInt) (rfl) (by omega) (j := 3) rfl dX13_with_99 (fun z_8 ez_8 (hz_8 : True) => ?_)
        have hqz_8 : z_8.toInt = jSo C.a (a1.toInt) := by unfold jSo; rw [ez_8]
        refine lv_iload hx hb dX13_with_100 (lv_at hl 1 rfl) ?_
        refine lv_aload_n hx hb dX13_with_102 rfl (lv_at hl 5 rfl) ?_
        refine lv_iload hx hb dX13_with_103 (lv_at hl 6 rfl) ?_
        refine va_calli (A0 := jA base) (H0 := s.heap) (va_runV (As := [.int z_8, .int w0_4, .ref r3, .int a4]) (rest := []) ⟨hx, hb, hml, hown, hts⟩ (ih (d - 1) (by omega) G0 H_5 r0 z_8 w0_4 r3 a4 n3 pn py zs zn za zb zc zy T C) (cwV 4 hts (jgV (jWr_67 _ (List.mem_of_getElem? (i := 7) rfl)) (jWr_67 _ (List.mem_of_getElem? (i := 8) rfl)) (jWr_67 _ (List.mem_of_getElem? (i := 9) rfl)) (jWr_12 _ (List.mem_of_getElem? (i := 12) rfl)) (jWr_67 _ (List.mem_of_getElem? (i := 10) rfl))) rfl rfl rfl (by decide +kernel) ⟨by rw [← hR]; show (d - 1 + 20) + 1 ≤ d + 20; omega, by rw [← hR]; show 8 + (9 + 11) + (60 * (d - 1) + 400) ≤ 60 * d + 400; omega⟩) ⟨fun a U g mk q => by obtain ⟨q0, q1, q2, qK, q10, q11, q12, q13, q14, q15, q16, q17, q18, q19, q20⟩ := q; exact ⟨q0, q1, q2, jG.calling g mk a qK, q10, q11, q12, q13, q14, q15, q16, q17, q18, q19, q20⟩, hh_5.recv (C := RX13) (T := TX13) (N := 50) hB15 rfl (by decide) hg_r0 hK, fun U hU hW => ⟨rfl, hU, hh_5.2.1, hG.step hW hU hh_5.1, hg_r3, hg_r0, hg_zs, hg_zn, hg_za, hg_zb, hg_zc, hg_zy, (hh_5.2.2.1.sub (L1 := [(r0, 15, 5, .int pn), (r0, 15, 11, .int py), (r0, 15, 0, .ref zs), (r0, 15, 1, .ref zn), (r0, 15, 2, .ref za), (r0, 15, 3, .ref zb), (r0, 15, 4, .ref zc), (r0, 15, 14, .ref zy)]) [0, 1, 2, 3, 4, 5, 6, 7] rfl), (hh_5.2.2.2.2.2.2.2.1.sub (L1 := [(r3, 169, n3, ca 1, T), (zs, 150, 120000, ca 1, C.s), (zn, 151, 120000, ca 1, C.n), (za, 152, 120000, ca 1, C.a), (zb, 153, 120000, ca 1, C.b), (zc, 154, 120000, ca 1, C.c), (zy, 165, 16, ca 1, C.y)]) [0, 1, 2, 3, 4, 5, 6] rfl), ⟨(by first | assumption | (rw [hqz_8]; exact (hp0.part (k := 0) (by omega) (by omega)).mono (Nat.le_refl _) (by omega)) | (rw [hqz_8, show w0_4.toInt = (a2.toInt + jQf C a1.toInt) by omega]; omega) | omega), (by first | assumption | (rw [hqz_8]; exact (hp0.part (k := 0) (by omega) (by omega)).mono (Nat.le_refl _) (by omega)) | (rw [hqz_8, show w0_4.toInt = (a2.toInt + jQf C a1.toInt) by omega]; omega) | omega), (by first | omega | rfl | assumption | (rw [hqz_8]; exact (hp0.part (k := 0) (by omega) (by omega)).mono (Nat.le_refl _) (by omega)) | (rw [hqz_8, show w0_4.toInt = (a2.toInt + jQf C a1.toInt) by omega]; omega)), (by first | omega | rfl | assumption | (rw [hqz_8]; exact (hp0.part (k := 0) (by omega) (by omega)).mono (Nat.le_refl _) (by omega)) | (rw [hqz_8, show w0_4.toInt = (a2.toInt + jQf C a1.toInt) by omega]; omega)), (by first | omega | rfl | assumption | (rw [hqz_8]; exact (hp0.part (k := 0) (by omega) (by omega)).mono (Nat.le_refl _) (by omega)) | (rw [hqz_8, show w0_4.toInt = (a2.toInt + jQf C a1.toInt) by omega]; omega)), (by first | omega | rfl | assumption | (rw [hqz_8]; exact (hp0.part (k := 0) (by omega) (by omega)).mono (Nat.le_refl _) (by omega)) | (rw [hqz_8, show w0_4.toInt = (a2.toInt + jQf C a1.toInt) by omega]; omega)), (by first | omega | rfl | assumption | (rw [hqz_8]; exact (hp0.part (k := 0) (by omega) (by omega)).mono (Nat.le_refl _) (by omega)) | (rw [hqz_8, show w0_4.toInt = (a2.toInt + jQf C a1.toInt) by omega]; omega)), (by first | omega | rfl | assumption | (rw [hqz_8]; exact (hp0.part (k := 0) (by omega) (by omega)).mono (Nat.le_refl _) (by omega)) | (rw [hqz_8, show w0_4.toInt = (a2.toInt + jQf C a1.toInt) by omega]; omega)), (by first | omega | rfl | assumption | (rw [hqz_8]; exact (hp0.part (k := 0) (by omega) (by omega)).mono (Nat.le_refl _) (by omega)) | (rw [hqz_8, show w0_4.toInt = (a2.toInt + jQf C a1.toInt) by omega]; omega)), (by first | omega | rfl | assumption | (rw [hqz_8]; exact (hp0.part (k := 0) (by omega) (by omega)).mono (Nat.le_refl _) (by omega)) | (rw [hqz_8, show w0_4.toInt = (a2.toInt + jQf C a1.toInt) by omega]; omega)), (by first | omega | rfl | assumption | (rw [hqz_8]; exact (hp0.part (k := 0) (by omega) (by omega)).mono (Nat.le_refl _) (by omega)) | (rw [hqz_8, show w0_4.toInt = (a2.toInt + jQf C a1.toInt) by omega]; omega)), (by first | omega | rfl | assumption | (rw [hqz_8]; exact (hp0.part (k := 0) (by omega) (by omega)).mono (Nat.le_refl _) (by omega)) | (rw [hqz_8, show w0_4.toInt = (a2.toInt + jQf C a1.toInt) by omega]; omega))⟩⟩⟩ rfl rfl hl.1 rfl (lv_room (Nat.le_of_ble_eq_true rfl)) dX13_with_105 ⟨Nat.zero_le _, Nat.zero_le _⟩) hh_5.1 (fun q _ h => h) (fun q h => h) (fun r_10 u_9 t_9 H_9 locs_9 ht_9 hvm_9 hr_10 hb_9 hz_9 hk_9 hS_9 => ?_)
        obtain ⟨qn_9, D_9⟩ := u_9
        rw [ht_9] at hb_9
        obtain ⟨⟨hb_91, hb_92, hb_93, hb_94, hb_95⟩, hb_96⟩ := hb_9
        have hh_9 : jSt (dC, dI) B base G0 G0 EX13_with s.heap 0 0 [(r0, 15, 5, .int qn_9), (r0, 15, 11, .int py), (r0, 15, 0, .ref zs), (r0, 15, 1, .ref zn), (r0, 15, 2, .ref za), (r0, 15, 3, .ref zb), (r0, 15, 4, .ref zc), (r0, 15, 14, .ref zy)] [(zs, 150, 120000, ca 1, D_9.s), (zn, 151, 120000, ca 1, D_9.n), (za, 152, 120000, ca 1, D_9.a), (zb, 153, 120000, ca 1, D_9.b), (zc, 154, 120000, ca 1, D_9.c), (zy, 165, 16, ca 1, D_9.y), (r3, 169, n3, ca 1, T), (zy, 165, 16, ca 1, C.y)] [] H_9 locs_9 := ((hh_5.call hb_91 hb_92 hb_93 hb_94 hS_9 rfl (L1 := [(r0, 15, 11, .int py), (r0, 15, 0, .ref zs), (r0, 15, 1, .ref zn), (r0, 15, 2, .ref za), (r0, 15, 3, .ref zb), (r0, 15, 4, .ref zc), (r0, 15, 14, .ref zy)]) [1, 2, 3, 4, 5, 6, 7] rfl rfl (M1 := [(r3, 169, n3, ca 1, T), (zy, 165, 16, ca 1, C.y)]) [0, 6] rfl rfl (I1 := []) [] rfl rfl).more hb_95).moreM hb_96
        clear hh_5 ht_9 hvm_9 hz_9 hk_9 hS_9 hb_91 hb_92 hb_93 hb_94 hb_95
        clear hb_96
        try simp only at hr_10
        obtain ⟨hr_10_0, hr_10_1, hr_10_2, hr_10_3, hr_10_4⟩ := hr_10
        rw [hqz_8, show w0_4.toInt = (a2.toInt + jQf C a1.toInt) by omega] at hr_10_1 hr_10_4
        rw [show w0_4.toInt = (a2.toInt + jQf C a1.toInt) by omega] at hr_10_3
        have hso1 := (hr_10_2).so g1 g2
        refine lv_istore (lv' := [(7, .int r_10), (6, .int r_6), (5, .int w0_4), (0, .ref r0), (1, .int a1), (2, .int a2), (3, .ref r3), (4, .int a4)]) hx hb dX13_with_108 hl (by decide) rfl (fun ls hl => ?_)
        refine lv_iload hx hb dX13_with_110 (lv_at hl 1 rfl) ?_
        refine lv_iconst (v := 1) hx hb dX13_with_112 (by decide) ?_
        refine lv_icmp_le (tgt := 134) hx hb dX13_with_113 (by decide) (fun c_11 => ?_) (fun c_11 => ?_)
        · skip
          have c_11' : r_6.toInt ≤ 1 := jb_le (rfl) ((by decide)) c_11
          refine lv_iconst (v := 0) hx hb dX13_with_134 (by decide) ?_
          refine lv_istore (lv' := [(8, .int 0), (7, .int r_10), (6, .int r_6), (5, .int w0_4), (0, .ref r0), (1, .int a1), (2, .int a2), (3, .ref r3), (4, .int a4)]) hx hb dX13_with_135 hl (by decide) rfl (fun ls hl => ?_)
          refine lv_aload_n hx hb dX13_with_137 rfl (lv_at hl 4 rfl) ?_
          refine lv_aload_n hx hb dX13_with_138 rfl (lv_at hl 4 rfl) ?_
          refine j7_read hx hb hown hK (C := RX13) (T := TX13) (N := 50) rfl hly_15_0 hlk_12 (hh_9.at 2 rfl) dX13_with_139 ?_
          refine lv_iload_n hx hb dX13_with_142 rfl (lv_at hl 5 rfl) ?_
          refine j7_ialdM hx hb hK hh_9 hB150 1 rfl (by decide) hg_zs (x := a1.toInt) (rfl) (by omega) (j := 0) rfl dX13_with_143 (fun z_12 ez_12 (hz_12 : True) => ?_)
          have hqz_12 : z_12.toInt = jSo D_9.s (a1.toInt) := by unfold jSo; rw [ez_12]
          refine lv_aload_n hx hb dX13_with_144 rfl (lv_at hl 4 rfl) ?_
          refine j7_read hx hb hown hK (C := RX13) (T := TX13) (N := 50) rfl hly_15_1 hlk_16 (hh_9.at 3 rfl) dX13_with_145 ?_
          refine lv_iload_n hx hb dX13_with_148 rfl (lv_at hl 5 rfl) ?_
          refine j7_ialdM hx hb hK hh_9 hB151 1 rfl (by decide) hg_zn (x := a1.toInt) (rfl) (by omega) (j := 1) rfl dX13_with_149 (fun z_13 ez_13 (hz_13 : True) => ?_)
          have hqz_13 : z_13.toInt = jSo D_9.n (a1.toInt) := by unfold jSo; rw [ez_13]
          refine lv_iload hx hb dX13_with_150 (lv_at hl 1 rfl) ?_
          refine lv_iload hx hb dX13_with_152 (lv_at hl 0 rfl) ?_
          refine lv_iload hx hb dX13_with_154 (lv_at hl 2 rfl) ?_
          refine lv_iconst (v := 2) hx hb dX13_with_156 (by decide) ?_
          refine lv_icmp_le (tgt := 178) hx hb dX13_with_157 (by decide) (fun c_14 => ?_) (fun c_14 => ?_)
          · skip
            have c_14' : r_6.toInt ≤ 2 := jb_le (rfl) ((by decide)) c_14
            refine lv_iconst (v := 0) hx hb dX13_with_178 (by decide) ?_
            refine va_calli (A0 := jA base) (H0 := s.heap) (va_runV (As := [.int z_12, .int z_13, .int r_10, .int 0, .int 0]) (rest := []) ⟨hx, hb, hml, hown, hts⟩ (uX13_nodeK l dC dI ca base B hB hAp hB15 hB150 hB151 hB152 hB153 hB154 hB165 G0 H_9 r0 z_12 z_13 r_10 0 0 qn_9 zs zn za zb zc zy D_9) (cwV 5 hts (jgV (jWr_62 _ (List.mem_of_getElem? (i := 9) rfl)) (jWr_62 _ (List.mem_of_getElem? (i := 10) rfl)) (jWr_62 _ (List.mem_of_getElem? (i := 11) rfl)) (jWr_12 _ (List.mem_of_getElem? (i := 12) rfl)) (jWr_62 _ (List.mem_of_getElem? (i := 12) rfl))) rfl rfl rfl (by decide +kernel) ⟨by rw [← hR]; show (0) + 1 ≤ d + 20; omega, by rw [← hR]; show 8 + (6 + 11) + (0) ≤ 60 * d + 400; omega⟩) ⟨fun a U g mk q => by obtain ⟨q0, q1, q2, qK, q10, q11, q12, q13, q14, q15, q16, q17, q18, q19⟩ := q; exact ⟨q0, q1, q2, jG.calling g mk a qK, q10, q11, q12, q13, q14, q15, q16, q17, q18, q19⟩, hh_9.recv (C := RX13) (T := TX13) (N := 50) hB15 rfl (by decide) hg_r0 hK, fun U hU hW => ⟨rfl, hU, hh_9.2.1, hG.step hW hU hh_9.1, hg_r0, hg_zs, hg_zn, hg_za, hg_zb, hg_zc, hg_zy, (hh_9.2.2.1.sub (L1 := [(r0, 15, 5, .int qn_9), (r0, 15, 0, .ref zs), (r0, 15, 1, .ref zn), (r0, 15, 2, .ref za), (r0, 15, 3, .ref zb), (r0, 15, 4, .ref zc), (r0, 15, 14, .ref zy)]) [0, 2, 3, 4, 5, 6, 7] rfl), (hh_9.2.2.2.2.2.2.2.1.sub (L1 := [(zs, 150, 120000, ca 1, D_9.s), (zn, 151, 120000, ca 1, D_9.n), (za, 152, 120000, ca 1, D_9.a), (zb, 153, 120000, ca 1, D_9.b), (zc, 154, 120000, ca 1, D_9.c), (zy, 165, 16, ca 1, D_9.y)]) [0, 1, 2, 3, 4, 5] rfl), by first | omega | (refine ⟨?_, ?_⟩ <;> (first | omega | rfl | assumption | decide | exact Or.inl rfl | exact Or.inr rfl | (simp only; omega)))⟩⟩ rfl rfl hl.1 rfl (lv_room (Nat.le_of_ble_eq_true rfl)) dX13_with_179 ⟨Nat.zero_le _, Nat.zero_le _⟩) hh_9.1 (fun q _ h => h) (fun q h => h) (fun r_16 u_15 t_15 H_15 locs_15 ht_15 hvm_15 hr_16 hb_15 hz_15 hk_15 hS_15 => ?_)
            obtain ⟨qn_15, D_15⟩ := u_15
            rw [ht_15] at hb_15
            obtain ⟨⟨hb_151, hb_152, hb_153, hb_154, hb_155⟩, hb_156⟩ := hb_15
            have hh_15 : jSt (dC, dI) B base G0 G0 EX13_with s.heap 0 0 [(r0, 15, 5, .int qn_15), (r0, 15, 11, .int py), (r0, 15, 0, .ref zs), (r0, 15, 1, .ref zn), (r0, 15, 2, .ref za), (r0, 15, 3, .ref zb), (r0, 15, 4, .ref zc), (r0, 15, 14, .ref zy)] [(zs, 150, 120000, ca 1, D_15.s), (zn, 151, 120000, ca 1, D_15.n), (za, 152, 120000, ca 1, D_15.a), (zb, 153, 120000, ca 1, D_15.b), (zc, 154, 120000, ca 1, D_15.c), (zy, 165, 16, ca 1, D_15.y), (zy, 165, 16, ca 1, D_9.y), (r3, 169, n3, ca 1, T), (zy, 165, 16, ca 1, C.y)] [] H_15 locs_15 := ((hh_9.call hb_151 hb_152 hb_153 hb_154 hS_15 rfl (L1 := [(r0, 15, 11, .int py), (r0, 15, 0, .ref zs), (r0, 15, 1, .ref zn), (r0, 15, 2, .ref za), (r0, 15, 3, .ref zb), (r0, 15, 4, .ref zc), (r0, 15, 14, .ref zy)]) [1, 2, 3, 4, 5, 6, 7] rfl rfl (M1 := [(zy, 165, 16, ca 1, D_9.y), (r3, 169, n3, ca 1, T), (zy, 165, 16, ca 1, C.y)]) [5, 6, 7] rfl rfl (I1 := []) [] rfl rfl).more hb_155).moreM hb_156
            clear hh_9 ht_15 hvm_15 hz_15 hk_15 hS_15 hb_151 hb_152 hb_153 hb_154 hb_155
            clear hb_156
            try simp only at hr_16
            obtain ⟨hr_16_0, hr_16_1, hr_16_2⟩ := hr_16
            first | rw [hqz_12, hqz_13, hso2.1, hso2.2.1] at hr_16_2 | rw [hqz_12, hqz_13, hso1.1, hso1.2.1] at hr_16_2
            rw [hQ]
            exact W.iret (v := r_16) hx hb hr (fun t ht hW => ⟨⟨r_16, (qn_15, D_15), rfl, by
    try dsimp only
    have h00 : jPts C a1.toInt = 1 := by omega
    have key := jRe4 (v := a2.toInt) hp0 hr_10_2 hr_10_0 hr_16_2 hi_2 (by omega) (fun _ => hr_10_3) (fun q => absurd q (by omega)) (fun q => absurd q (by omega))
    have ys := (jSwK_y C T a4.toInt a2.toInt a1.toInt (jPts C a1.toInt)).2.1 h00
    refine ⟨by omega, by omega, key.1, ?_, ?_⟩
    · rw [hr_16_0, hr_16_1]; exact key.2.1.mono (by omega) (Int.le_refl _)
    · rw [hr_16_0, key.2.2.1 h00]; omega, ⟨hh_15.rt (M1 := [(r0, 15, 5, .int qn_15)]) [0] rfl ht, by rw [ht]; exact hh_15.2.2.2.2.2.2.2.1.sub [0, 1, 2, 3, 4, 5] rfl⟩⟩, by rw [ht]; try exact hh_15.1.1, fun q h9 hq => by rw [ht]; try exact hh_15.1.2.1 q h9 hq⟩) hh_15.1.2.2 dX13_with_182
          · skip
            have c_14' : r_6.toInt > 2 := jb_le_n (rfl) ((by decide)) c_14
            exact (by omega : False).elim
        · skip
          have c_11' : r_6.toInt > 1 := jb_le_n (rfl) ((by decide)) c_11
          have y1 := jSwK_b C T a4.toInt a2.toInt a1.toInt (jPts C a1.toInt) (by omega) (by omega)
          have hn1 := jSw_nn C T a4.toInt (a2.toInt + jQf C a1.toInt) (jSo C.b a1.toInt)
          have hT1 := hp1.ag (hr_10_2) (hr_10_0)
          have hf1 : jFm D_9 qn_9.toInt py.toInt (d - 1) ((a2.toInt + jQf C a1.toInt) + a4.toInt) (jSo C.b a1.toInt) := ((hp0.part (k := 1) (by omega) (by omega)).mono (Nat.le_refl _) (by omega)).ag (hr_10_2) (hr_10_0)
          have hw1 : jSw D_9 T a4.toInt (a2.toInt + jQf C a1.toInt) (jSo C.b a1.toInt) = jSw C T a4.toInt (a2.toInt + jQf C a1.toInt) (jSo C.b a1.toInt) := jSw_ag' (hr_10_2) hp1 (hp0.part (k := 1) (by omega) (by omega))
          refine lv_aload_n hx hb dX13_with_116 rfl (lv_at hl 3 rfl) ?_
          refine lv_aload_n hx hb dX13_with_117 rfl (lv_at hl 3 rfl) ?_
          refine j7_read hx hb hown hK (C := RX13) (T := TX13) (N := 50) rfl hly_15_3 hlk_22 (hh_9.at 5 rfl) dX13_with_118 ?_
          refine lv_iload_n hx hb dX13_with_121 rfl (lv_at hl 4 rfl) ?_
          refine j7_ialdM hx hb hK hh_9 hB153 1 rfl (by decide) hg_zb (x := a1.toInt) (rfl) (by omega) (j := 3) rfl dX13_with_122 (fun z_17 ez_17 (hz_17 : True) => ?_)
          have hqz_17 : z_17.toInt = jSo D_9.b (a1.toInt) := by unfold jSo; rw [ez_17]
          refine lv_iload hx hb dX13_with_123 (lv_at hl 2 rfl) ?_
          refine lv_aload_n hx hb dX13_with_125 rfl (lv_at hl 6 rfl) ?_
          refine lv_iload hx hb dX13_with_126 (lv_at hl 7 rfl) ?_
          refine va_calli (A0 := jA base) (H0 := s.heap) (va_runV (As := [.int z_17, .int w0_4, .ref r3, .int a4]) (rest := []) ⟨hx, hb, hml, hown, hts⟩ (ih (d - 1) (by omega) G0 H_9 r0 z_17 w0_4 r3 a4 n3 qn_9 py zs zn za zb zc zy T D_9) (cwV 4 hts (jgV (jWr_67 _ (List.mem_of_getElem? (i := 7) rfl)) (jWr_67 _ (List.mem_of_getElem? (i := 8) rfl)) (jWr_67 _ (List.mem_of_getElem? (i := 9) rfl)) (jWr_12 _ (List.mem_of_getElem? (i := 12) rfl)) (jWr_67 _ (List.mem_of_getElem? (i := 10) rfl))) rfl rfl rfl (by decide +kernel) ⟨by rw [← hR]; show (d - 1 + 20) + 1 ≤ d + 20; omega, by rw [← hR]; show 8 + (9 + 11) + (60 * (d - 1) + 400) ≤ 60 * d + 400; omega⟩) ⟨fun a U g mk q => by obtain ⟨q0, q1, q2, qK, q10, q11, q12, q13, q14, q15, q16, q17, q18, q19, q20⟩ := q; exact ⟨q0, q1, q2, jG.calling g mk a qK, q10, q11, q12, q13, q14, q15, q16, q17, q18, q19, q20⟩, hh_9.recv (C := RX13) (T := TX13) (N := 50) hB15 rfl (by decide) hg_r0 hK, fun U hU hW => ⟨rfl, hU, hh_9.2.1, hG.step hW hU hh_9.1, hg_r3, hg_r0, hg_zs, hg_zn, hg_za, hg_zb, hg_zc, hg_zy, (hh_9.2.2.1.sub (L1 := [(r0, 15, 5, .int qn_9), (r0, 15, 11, .int py), (r0, 15, 0, .ref zs), (r0, 15, 1, .ref zn), (r0, 15, 2, .ref za), (r0, 15, 3, .ref zb), (r0, 15, 4, .ref zc), (r0, 15, 14, .ref zy)]) [0, 1, 2, 3, 4, 5, 6, 7] rfl), (hh_9.2.2.2.2.2.2.2.1.sub (L1 := [(r3, 169, n3, ca 1, T), (zs, 150, 120000, ca 1, D_9.s), (zn, 151, 120000, ca 1, D_9.n), (za, 152, 120000, ca 1, D_9.a), (zb, 153, 120000, ca 1, D_9.b), (zc, 154, 120000, ca 1, D_9.c), (zy, 165, 16, ca 1, D_9.y)]) [6, 0, 1, 2, 3, 4, 5] rfl), ⟨(by first | assumption | (rw [hqz_17, hso1.2.2.2.1, show w0_4.toInt = (a2.toInt + jQf C a1.toInt) by omega]; exact hf1) | (rw [hqz_17, hso1.2.2.2.1, show w0_4.toInt = (a2.toInt + jQf C a1.toInt) by omega, hw1]; omega) | omega), (by first | assumption | (rw [hqz_17, hso1.2.2.2.1, show w0_4.toInt = (a2.toInt + jQf C a1.toInt) by omega]; exact hf1) | (rw [hqz_17, hso1.2.2.2.1, show w0_4.toInt = (a2.toInt + jQf C a1.toInt) by omega, hw1]; omega) | omega), (by first | omega | rfl | assumption | (rw [hqz_17, hso1.2.2.2.1, show w0_4.toInt = (a2.toInt + jQf C a1.toInt) by omega]; exact hf1) | (rw [hqz_17, hso1.2.2.2.1, show w0_4.toInt = (a2.toInt + jQf C a1.toInt) by omega, hw1]; omega)), (by first | omega | rfl | assumption | (rw [hqz_17, hso1.2.2.2.1, show w0_4.toInt = (a2.toInt + jQf C a1.toInt) by omega]; exact hf1) | (rw [hqz_17, hso1.2.2.2.1, show w0_4.toInt = (a2.toInt + jQf C a1.toInt) by omega, hw1]; omega)), (by first | omega | rfl | assumption | (rw [hqz_17, hso1.2.2.2.1, show w0_4.toInt = (a2.toInt + jQf C a1.toInt) by omega]; exact hf1) | (rw [hqz_17, hso1.2.2.2.1, show w0_4.toInt = (a2.toInt + jQf C a1.toInt) by omega, hw1]; omega)), (by first | omega | rfl | assumption | (rw [hqz_17, hso1.2.2.2.1, show w0_4.toInt = (a2.toInt + jQf C a1.toInt) by omega]; exact hf1) | (rw [hqz_17, hso1.2.2.2.1, show w0_4.toInt = (a2.toInt + jQf C a1.toInt) by omega, hw1]; omega)), (by first | omega | rfl | assumption | (rw [hqz_17, hso1.2.2.2.1, show w0_4.toInt = (a2.toInt + jQf C a1.toInt) by omega]; exact hf1) | (rw [hqz_17, hso1.2.2.2.1, show w0_4.toInt = (a2.toInt + jQf C a1.toInt) by omega, hw1]; omega)), (by first | omega | rfl | assumption | (rw [hqz_17, hso1.2.2.2.1, show w0_4.toInt = (a2.toInt + jQf C a1.toInt) by omega]; exact hf1) | (rw [hqz_17, hso1.2.2.2.1, show w0_4.toInt = (a2.toInt + jQf C a1.toInt) by omega, hw1]; omega)), (by first | omega | rfl | assumption | (rw [hqz_17, hso1.2.2.2.1, show w0_4.toInt = (a2.toInt + jQf C a1.toInt) by omega]; exact hf1) | (rw [hqz_17, hso1.2.2.2.1, show w0_4.toInt = (a2.toInt + jQf C a1.toInt) by omega, hw1]; omega)), (by first | omega | rfl | assumption | (rw [hqz_17, hso1.2.2.2.1, show w0_4.toInt = (a2.toInt + jQf C a1.toInt) by omega]; exact hf1) | (rw [hqz_17, hso1.2.2.2.1, show w0_4.toInt = (a2.toInt + jQf C a1.toInt) by omega, hw1]; omega)), (by first | omega | rfl | assumption | (rw [hqz_17, hso1.2.2.2.1, show w0_4.toInt = (a2.toInt + jQf C a1.toInt) by omega]; exact hf1) | (rw [hqz_17, hso1.2.2.2.1, show w0_4.toInt = (a2.toInt + jQf C a1.toInt) by omega, hw1]; omega)), (by first | omega | rfl | assumption | (rw [hqz_17, hso1.2.2.2.1, show w0_4.toInt = (a2.toInt + jQf C a1.toInt) by omega]; exact hf1) | (rw [hqz_17, hso1.2.2.2.1, show w0_4.toInt = (a2.toInt + jQf C a1.toInt) by omega, hw1]; omega))⟩⟩⟩ rfl rfl hl.1 rfl (lv_room (Nat.le_of_ble_eq_true rfl)) dX13_with_128 ⟨Nat.zero_le _, Nat.zero_le _⟩) hh_9.1 (fun q _ h => h) (fun q h => h) (fun r_19 u_18 t_18 H_18 locs_18 ht_18 hvm_18 hr_19 hb_18 hz_18 hk_18 hS_18 => ?_)
          obtain ⟨qn_18, D_18⟩ := u_18
          rw [ht_18] at hb_18
          obtain ⟨⟨hb_181, hb_182, hb_183, hb_184, hb_185⟩, hb_186⟩ := hb_18
          have hh_18 : jSt (dC, dI) B base G0 G0 EX13_with s.heap 0 0 [(r0, 15, 5, .int qn_18), (r0, 15, 11, .int py), (r0, 15, 0, .ref zs), (r0, 15, 1, .ref zn), (r0, 15, 2, .ref za), (r0, 15, 3, .ref zb), (r0, 15, 4, .ref zc), (r0, 15, 14, .ref zy)] [(zs, 150, 120000, ca 1, D_18.s), (zn, 151, 120000, ca 1, D_18.n), (za, 152, 120000, ca 1, D_18.a), (zb, 153, 120000, ca 1, D_18.b), (zc, 154, 120000, ca 1, D_18.c), (zy, 165, 16, ca 1, D_18.y), (zy, 165, 16, ca 1, D_9.y), (r3, 169, n3, ca 1, T), (zy, 165, 16, ca 1, C.y)] [] H_18 locs_18 := ((hh_9.call hb_181 hb_182 hb_183 hb_184 hS_18 rfl (L1 := [(r0, 15, 11, .int py), (r0, 15, 0, .ref zs), (r0, 15, 1, .ref zn), (r0, 15, 2, .ref za), (r0, 15, 3, .ref zb), (r0, 15, 4, .ref zc), (r0, 15, 14, .ref zy)]) [1, 2, 3, 4, 5, 6, 7] rfl rfl (M1 := [(zy, 165, 16, ca 1, D_9.y), (r3, 169, n3, ca 1, T), (zy, 165, 16, ca 1, C.y)]) [5, 6, 7] rfl rfl (I1 := []) [] rfl rfl).more hb_185).moreM hb_186
          clear hh_9 ht_18 hvm_18 hz_18 hk_18 hS_18 hb_181 hb_182 hb_183 hb_184 hb_185
          clear hb_186
          try simp only at hr_19
          obtain ⟨hr_19_0, hr_19_1, hr_19_2, hr_19_3, hr_19_4⟩ := hr_19
          rw [hqz_17, hso1.2.2.2.1, show w0_4.toInt = (a2.toInt + jQf C a1.toInt) by omega, hw1] at hr_19_1 hr_19_4
          rw [show w0_4.toInt = (a2.toInt + jQf C a1.toInt) by omega] at hr_19_3
          have hso2 := (hr_10_2.tr hr_19_2 hr_10_0).so g1 g2
          refine lv_goto (tgt := 135) hx hb dX13_with_131 (by decide) ?_
          refine lv_istore (lv' := [(8, .int r_19), (7, .int r_10), (6, .int r_6), (5, .int w0_4), (0, .ref r0), (1, .int a1), (2, .int a2), (3, .ref r3), (4, .int a4)]) hx hb dX13_with_135 hl (by decide) rfl (fun ls hl => ?_)
          refine lv_aload_n hx hb dX13_with_137 rfl (lv_at hl 4 rfl) ?_
          refine lv_aload_n hx hb dX13_with_138 rfl (lv_at hl 4 rfl) ?_
          refine j7_read hx hb hown hK (C := RX13) (T := TX13) (N := 50) rfl hly_15_0 hlk_12 (hh_18.at 2 rfl) dX13_with_139 ?_
          refine lv_iload_n hx hb dX13_with_142 rfl (lv_at hl 5 rfl) ?_
          refine j7_ialdM hx hb hK hh_18 hB150 1 rfl (by decide) hg_zs (x := a1.toInt) (rfl) (by omega) (j := 0) rfl dX13_with_143 (fun z_20 ez_20 (hz_20 : True) => ?_)
          have hqz_20 : z_20.toInt = jSo D_18.s (a1.toInt) := by unfold jSo; rw [ez_20]
          refine lv_aload_n hx hb dX13_with_144 rfl (lv_at hl 4 rfl) ?_
          refine j7_read hx hb hown hK (C := RX13) (T := TX13) (N := 50) rfl hly_15_1 hlk_16 (hh_18.at 3 rfl) dX13_with_145 ?_
          refine lv_iload_n hx hb dX13_with_148 rfl (lv_at hl 5 rfl) ?_
          refine j7_ialdM hx hb hK hh_18 hB151 1 rfl (by decide) hg_zn (x := a1.toInt) (rfl) (by omega) (j := 1) rfl dX13_with_149 (fun z_21 ez_21 (hz_21 : True) => ?_)
          have hqz_21 : z_21.toInt = jSo D_18.n (a1.toInt) := by unfold jSo; rw [ez_21]
          refine lv_iload hx hb dX13_with_150 (lv_at hl 1 rfl) ?_
          refine lv_iload hx hb dX13_with_152 (lv_at hl 0 rfl) ?_
          refine lv_iload hx hb dX13_with_154 (lv_at hl 2 rfl) ?_
          refine lv_iconst (v := 2) hx hb dX13_with_156 (by decide) ?_
          refine lv_icmp_le (tgt := 178) hx hb dX13_with_157 (by decide) (fun c_22 => ?_) (fun c_22 => ?_)
          · skip
            have c_22' : r_6.toInt ≤ 2 := jb_le (rfl) ((by decide)) c_22
            refine lv_iconst (v := 0) hx hb dX13_with_178 (by decide) ?_
            refine va_calli (A0 := jA base) (H0 := s.heap) (va_runV (As := [.int z_20, .int z_21, .int r_10, .int r_19, .int 0]) (rest := []) ⟨hx, hb, hml, hown, hts⟩ (uX13_nodeK l dC dI ca base B hB hAp hB15 hB150 hB151 hB152 hB153 hB154 hB165 G0 H_18 r0 z_20 z_21 r_10 r_19 0 qn_18 zs zn za zb zc zy D_18) (cwV 5 hts (jgV (jWr_62 _ (List.mem_of_getElem? (i := 9) rfl)) (jWr_62 _ (List.mem_of_getElem? (i := 10) rfl)) (jWr_62 _ (List.mem_of_getElem? (i := 11) rfl)) (jWr_12 _ (List.mem_of_getElem? (i := 12) rfl)) (jWr_62 _ (List.mem_of_getElem? (i := 12) rfl))) rfl rfl rfl (by decide +kernel) ⟨by rw [← hR]; show (0) + 1 ≤ d + 20; omega, by rw [← hR]; show 8 + (6 + 11) + (0) ≤ 60 * d + 400; omega⟩) ⟨fun a U g mk q => by obtain ⟨q0, q1, q2, qK, q10, q11, q12, q13, q14, q15, q16, q17, q18, q19⟩ := q; exact ⟨q0, q1, q2, jG.calling g mk a qK, q10, q11, q12, q13, q14, q15, q16, q17, q18, q19⟩, hh_18.recv (C := RX13) (T := TX13) (N := 50) hB15 rfl (by decide) hg_r0 hK, fun U hU hW => ⟨rfl, hU, hh_18.2.1, hG.step hW hU hh_18.1, hg_r0, hg_zs, hg_zn, hg_za, hg_zb, hg_zc, hg_zy, (hh_18.2.2.1.sub (L1 := [(r0, 15, 5, .int qn_18), (r0, 15, 0, .ref zs), (r0, 15, 1, .ref zn), (r0, 15, 2, .ref za), (r0, 15, 3, .ref zb), (r0, 15, 4, .ref zc), (r0, 15, 14, .ref zy)]) [0, 2, 3, 4, 5, 6, 7] rfl), (hh_18.2.2.2.2.2.2.2.1.sub (L1 := [(zs, 150, 120000, ca 1, D_18.s), (zn, 151, 120000, ca 1, D_18.n), (za, 152, 120000, ca 1, D_18.a), (zb, 153, 120000, ca 1, D_18.b), (zc, 154, 120000, ca 1, D_18.c), (zy, 165, 16, ca 1, D_18.y)]) [0, 1, 2, 3, 4, 5] rfl), by first | omega | (refine ⟨?_, ?_⟩ <;> (first | omega | rfl | assumption | decide | exact Or.inl rfl | exact Or.inr rfl | (simp only; omega)))⟩⟩ rfl rfl hl.1 rfl (lv_room (Nat.le_of_ble_eq_true rfl)) dX13_with_179 ⟨Nat.zero_le _, Nat.zero_le _⟩) hh_18.1 (fun q _ h => h) (fun q h => h) (fun r_24 u_23 t_23 H_23 locs_23 ht_23 hvm_23 hr_24 hb_23 hz_23 hk_23 hS_23 => ?_)
            obtain ⟨qn_23, D_23⟩ := u_23
            rw [ht_23] at hb_23
            obtain ⟨⟨hb_231, hb_232, hb_233, hb_234, hb_235⟩, hb_236⟩ := hb_23
            have hh_23 : jSt (dC, dI) B base G0 G0 EX13_with s.heap 0 0 [(r0, 15, 5, .int qn_23), (r0, 15, 11, .int py), (r0, 15, 0, .ref zs), (r0, 15, 1, .ref zn), (r0, 15, 2, .ref za), (r0, 15, 3, .ref zb), (r0, 15, 4, .ref zc), (r0, 15, 14, .ref zy)] [(zs, 150, 120000, ca 1, D_23.s), (zn, 151, 120000, ca 1, D_23.n), (za, 152, 120000, ca 1, D_23.a), (zb, 153, 120000, ca 1, D_23.b), (zc, 154, 120000, ca 1, D_23.c), (zy, 165, 16, ca 1, D_23.y), (zy, 165, 16, ca 1, D_18.y), (zy, 165, 16, ca 1, D_9.y), (r3, 169, n3, ca 1, T), (zy, 165, 16, ca 1, C.y)] [] H_23 locs_23 := ((hh_18.call hb_231 hb_232 hb_233 hb_234 hS_23 rfl (L1 := [(r0, 15, 11, .int py), (r0, 15, 0, .ref zs), (r0, 15, 1, .ref zn), (r0, 15, 2, .ref za), (r0, 15, 3, .ref zb), (r0, 15, 4, .ref zc), (r0, 15, 14, .ref zy)]) [1, 2, 3, 4, 5, 6, 7] rfl rfl (M1 := [(zy, 165, 16, ca 1, D_18.y), (zy, 165, 16, ca 1, D_9.y), (r3, 169, n3, ca 1, T), (zy, 165, 16, ca 1, C.y)]) [5, 6, 7, 8] rfl rfl (I1 := []) [] rfl rfl).more hb_235).moreM hb_236
            clear hh_18 ht_23 hvm_23 hz_23 hk_23 hS_23 hb_231 hb_232 hb_233 hb_234 hb_235
            clear hb_236
            try simp only at hr_24
            obtain ⟨hr_24_0, hr_24_1, hr_24_2⟩ := hr_24
            first | rw [hqz_20, hqz_21, hso2.1, hso2.2.1] at hr_24_2 | rw [hqz_20, hqz_21, hso1.1, hso1.2.1] at hr_24_2
            rw [hQ]
            exact W.iret (v := r_24) hx hb hr (fun t ht hW => ⟨⟨r_24, (qn_23, D_23), rfl, by
    try dsimp only
    have h00 : jPts C a1.toInt = 2 := by omega
    have key := jRe4 (v := a2.toInt) hp0 (hr_10_2.tr hr_19_2 hr_10_0) (Int.le_trans hr_10_0 hr_19_0) hr_24_2 hi_2 (by omega) (fun _ => hr_10_3.ag hr_19_2 hr_19_0) (fun _ => hr_19_3) (fun q => absurd q (by omega))
    have j1 := jsz_ag hr_19_2 hr_10_3
    have ys := (jSwK_y C T a4.toInt a2.toInt a1.toInt (jPts C a1.toInt)).2.2.1 h00
    refine ⟨by omega, by omega, key.1, ?_, ?_⟩
    · rw [hr_24_0, hr_24_1]; exact key.2.1.mono (by omega) (Int.le_refl _)
    · rw [hr_24_0, key.2.2.2.1 h00]; omega, ⟨hh_23.rt (M1 := [(r0, 15, 5, .int qn_23)]) [0] rfl ht, by rw [ht]; exact hh_23.2.2.2.2.2.2.2.1.sub [0, 1, 2, 3, 4, 5] rfl⟩⟩, by rw [ht]; try exact hh_23.1.1, fun q h9 hq => by rw [ht]; try exact hh_23.1.2.1 q h9 hq⟩) hh_23.1.2.2 dX13_with_182
          · skip
            have c_22' : r_6.toInt > 2 := jb_le_n (rfl) ((by decide)) c_22
            have y2 := (jSwK_y C T a4.toInt a2.toInt a1.toInt (jPts C a1.toInt)).2.2.2 (by omega)
            have hn2 := jSw_nn C T a4.toInt (a2.toInt + jQf C a1.toInt) (jSo C.c a1.toInt)
            have hT2 := hp1.ag (hr_10_2.tr hr_19_2 hr_10_0) (Int.le_trans hr_10_0 hr_19_0)
            have hf2 : jFm D_18 qn_18.toInt py.toInt (d - 1) ((a2.toInt + jQf C a1.toInt) + a4.toInt) (jSo C.c a1.toInt) := ((hp0.part (k := 2) (by omega) (by omega)).mono (Nat.le_refl _) (by omega)).ag (hr_10_2.tr hr_19_2 hr_10_0) (Int.le_trans hr_10_0 hr_19_0)
            have hw2 : jSw D_18 T a4.toInt (a2.toInt + jQf C a1.toInt) (jSo C.c a1.toInt) = jSw C T a4.toInt (a2.toInt + jQf C a1.toInt) (jSo C.c a1.toInt) := jSw_ag' (hr_10_2.tr hr_19_2 hr_10_0) hp1 (hp0.part (k := 2) (by omega) (by omega))
            refine lv_aload_n hx hb dX13_with_160 rfl (lv_at hl 4 rfl) ?_
            refine lv_aload_n hx hb dX13_with_161 rfl (lv_at hl 4 rfl) ?_
            refine j7_read hx hb hown hK (C := RX13) (T := TX13) (N := 50) rfl hly_15_4 hlk_25 (hh_18.at 6 rfl) dX13_with_162 ?_
            refine lv_iload_n hx hb dX13_with_165 rfl (lv_at hl 5 rfl) ?_
            refine j7_ialdM hx hb hK hh_18 hB154 1 rfl (by decide) hg_zc (x := a1.toInt) (rfl) (by omega) (j := 4) rfl dX13_with_166 (fun z_25 ez_25 (hz_25 : True) => ?_)
            have hqz_25 : z_25.toInt = jSo D_18.c (a1.toInt) := by unfold jSo; rw [ez_25]
            refine lv_iload hx hb dX13_with_167 (lv_at hl 3 rfl) ?_
            refine lv_aload_n hx hb dX13_with_169 rfl (lv_at hl 7 rfl) ?_
            refine lv_iload hx hb dX13_with_170 (lv_at hl 8 rfl) ?_
            refine va_calli (A0 := jA base) (H0 := s.heap) (va_runV (As := [.int z_25, .int w0_4, .ref r3, .int a4]) (rest := [.int r_19, .int r_10, .int z_21, .int z_20, .ref r0]) ⟨hx, hb, hml, hown, hts⟩ (ih (d - 1) (by omega) G0 H_18 r0 z_25 w0_4 r3 a4 n3 qn_18 py zs zn za zb zc zy T D_18) (cwV 4 hts (jgV (jWr_67 _ (List.mem_of_getElem? (i := 7) rfl)) (jWr_67 _ (List.mem_of_getElem? (i := 8) rfl)) (jWr_67 _ (List.mem_of_getElem? (i := 9) rfl)) (jWr_12 _ (List.mem_of_getElem? (i := 12) rfl)) (jWr_67 _ (List.mem_of_getElem? (i := 10) rfl))) rfl rfl rfl (by decide +kernel) ⟨by rw [← hR]; show (d - 1 + 20) + 1 ≤ d + 20; omega, by rw [← hR]; show 8 + (9 + 11) + (60 * (d - 1) + 400) ≤ 60 * d + 400; omega⟩) ⟨fun a U g mk q => by obtain ⟨q0, q1, q2, qK, q10, q11, q12, q13, q14, q15, q16, q17, q18, q19, q20⟩ := q; exact ⟨q0, q1, q2, jG.calling g mk a qK, q10, q11, q12, q13, q14, q15, q16, q17, q18, q19, q20⟩, hh_18.recv (C := RX13) (T := TX13) (N := 50) hB15 rfl (by decide) hg_r0 hK, fun U hU hW => ⟨rfl, hU, hh_18.2.1, hG.step hW hU hh_18.1, hg_r3, hg_r0, hg_zs, hg_zn, hg_za, hg_zb, hg_zc, hg_zy, (hh_18.2.2.1.sub (L1 := [(r0, 15, 5, .int qn_18), (r0, 15, 11, .int py), (r0, 15, 0, .ref zs), (r0, 15, 1, .ref zn), (r0, 15, 2, .ref za), (r0, 15, 3, .ref zb), (r0, 15, 4, .ref zc), (r0, 15, 14, .ref zy)]) [0, 1, 2, 3, 4, 5, 6, 7] rfl), (hh_18.2.2.2.2.2.2.2.1.sub (L1 := [(r3, 169, n3, ca 1, T), (zs, 150, 120000, ca 1, D_18.s), (zn, 151, 120000, ca 1, D_18.n), (za, 152, 120000, ca 1, D_18.a), (zb, 153, 120000, ca 1, D_18.b), (zc, 154, 120000, ca 1, D_18.c), (zy, 165, 16, ca 1, D_18.y)]) [7, 0, 1, 2, 3, 4, 5] rfl), ⟨(by first | assumption | (rw [hqz_25, hso2.2.2.2.2, show w0_4.toInt = (a2.toInt + jQf C a1.toInt) by omega]; exact hf2) | (rw [hqz_25, hso2.2.2.2.2, show w0_4.toInt = (a2.toInt + jQf C a1.toInt) by omega, hw2]; omega) | omega), (by first | assumption | (rw [hqz_25, hso2.2.2.2.2, show w0_4.toInt = (a2.toInt + jQf C a1.toInt) by omega]; exact hf2) | (rw [hqz_25, hso2.2.2.2.2, show w0_4.toInt = (a2.toInt + jQf C a1.toInt) by omega, hw2]; omega) | omega), (by first | omega | rfl | assumption | (rw [hqz_25, hso2.2.2.2.2, show w0_4.toInt = (a2.toInt + jQf C a1.toInt) by omega]; exact hf2) | (rw [hqz_25, hso2.2.2.2.2, show w0_4.toInt = (a2.toInt + jQf C a1.toInt) by omega, hw2]; omega)), (by first | omega | rfl | assumption | (rw [hqz_25, hso2.2.2.2.2, show w0_4.toInt = (a2.toInt + jQf C a1.toInt) by omega]; exact hf2) | (rw [hqz_25, hso2.2.2.2.2, show w0_4.toInt = (a2.toInt + jQf C a1.toInt) by omega, hw2]; omega)), (by first | omega | rfl | assumption | (rw [hqz_25, hso2.2.2.2.2, show w0_4.toInt = (a2.toInt + jQf C a1.toInt) by omega]; exact hf2) | (rw [hqz_25, hso2.2.2.2.2, show w0_4.toInt = (a2.toInt + jQf C a1.toInt) by omega, hw2]; omega)), (by first | omega | rfl | assumption | (rw [hqz_25, hso2.2.2.2.2, show w0_4.toInt = (a2.toInt + jQf C a1.toInt) by omega]; exact hf2) | (rw [hqz_25, hso2.2.2.2.2, show w0_4.toInt = (a2.toInt + jQf C a1.toInt) by omega, hw2]; omega)), (by first | omega | rfl | assumption | (rw [hqz_25, hso2.2.2.2.2, show w0_4.toInt = (a2.toInt + jQf C a1.toInt) by omega]; exact hf2) | (rw [hqz_25, hso2.2.2.2.2, show w0_4.toInt = (a2.toInt + jQf C a1.toInt) by omega, hw2]; omega)), (by first | omega | rfl | assumption | (rw [hqz_25, hso2.2.2.2.2, show w0_4.toInt = (a2.toInt + jQf C a1.toInt) by omega]; exact hf2) | (rw [hqz_25, hso2.2.2.2.2, show w0_4.toInt = (a2.toInt + jQf C a1.toInt) by omega, hw2]; omega)), (by first | omega | rfl | assumption | (rw [hqz_25, hso2.2.2.2.2, show w0_4.toInt = (a2.toInt + jQf C a1.toInt) by omega]; exact hf2) | (rw [hqz_25, hso2.2.2.2.2, show w0_4.toInt = (a2.toInt + jQf C a1.toInt) by omega, hw2]; omega)), (by first | omega | rfl | assumption | (rw [hqz_25, hso2.2.2.2.2, show w0_4.toInt = (a2.toInt + jQf C a1.toInt) by omega]; exact hf2) | (rw [hqz_25, hso2.2.2.2.2, show w0_4.toInt = (a2.toInt + jQf C a1.toInt) by omega, hw2]; omega)), (by first | omega | rfl | assumption | (rw [hqz_25, hso2.2.2.2.2, show w0_4.toInt = (a2.toInt + jQf C a1.toInt) by omega]; exact hf2) | (rw [hqz_25, hso2.2.2.2.2, show w0_4.toInt = (a2.toInt + jQf C a1.toInt) by omega, hw2]; omega)), (by first | omega | rfl | assumption | (rw [hqz_25, hso2.2.2.2.2, show w0_4.toInt = (a2.toInt + jQf C a1.toInt) by omega]; exact hf2) | (rw [hqz_25, hso2.2.2.2.2, show w0_4.toInt = (a2.toInt + jQf C a1.toInt) by omega, hw2]; omega))⟩⟩⟩ rfl rfl hl.1 rfl (lv_room (Nat.le_of_ble_eq_true rfl)) dX13_with_172 ⟨Nat.zero_le _, Nat.zero_le _⟩) hh_18.1 (fun q _ h => h) (fun q h => h) (fun r_27 u_26 t_26 H_26 locs_26 ht_26 hvm_26 hr_27 hb_26 hz_26 hk_26 hS_26 => ?_)
            obtain ⟨qn_26, D_26⟩ := u_26
            rw [ht_26] at hb_26
            obtain ⟨⟨hb_261, hb_262, hb_263, hb_264, hb_265⟩, hb_266⟩ := hb_26
            have hh_26 : jSt (dC, dI) B base G0 G0 EX13_with s.heap 0 0 [(r0, 15, 5, .int qn_26), (r0, 15, 11, .int py), (r0, 15, 0, .ref zs), (r0, 15, 1, .ref zn), (r0, 15, 2, .ref za), (r0, 15, 3, .ref zb), (r0, 15, 4, .ref zc), (r0, 15, 14, .ref zy)] [(zs, 150, 120000, ca 1, D_26.s), (zn, 151, 120000, ca 1, D_26.n), (za, 152, 120000, ca 1, D_26.a), (zb, 153, 120000, ca 1, D_26.b), (zc, 154, 120000, ca 1, D_26.c), (zy, 165, 16, ca 1, D_26.y), (zy, 165, 16, ca 1, D_18.y), (zy, 165, 16, ca 1, D_9.y), (r3, 169, n3, ca 1, T), (zy, 165, 16, ca 1, C.y)] [] H_26 locs_26 := ((hh_18.call hb_261 hb_262 hb_263 hb_264 hS_26 rfl (L1 := [(r0, 15, 11, .int py), (r0, 15, 0, .ref zs), (r0, 15, 1, .ref zn), (r0, 15, 2, .ref za), (r0, 15, 3, .ref zb), (r0, 15, 4, .ref zc), (r0, 15, 14, .ref zy)]) [1, 2, 3, 4, 5, 6, 7] rfl rfl (M1 := [(zy, 165, 16, ca 1, D_18.y), (zy, 165, 16, ca 1, D_9.y), (r3, 169, n3, ca 1, T), (zy, 165, 16, ca 1, C.y)]) [5, 6, 7, 8] rfl rfl (I1 := []) [] rfl rfl).more hb_265).moreM hb_266
            clear hh_18 ht_26 hvm_26 hz_26 hk_26 hS_26 hb_261 hb_262 hb_263 hb_264 hb_265
            clear hb_266
            try simp only at hr_27
            obtain ⟨hr_27_0, hr_27_1, hr_27_2, hr_27_3, hr_27_4⟩ := hr_27
            rw [hqz_25, hso2.2.2.2.2, show w0_4.toInt = (a2.toInt + jQf C a1.toInt) by omega, hw2] at hr_27_1 hr_27_4
            rw [show w0_4.toInt = (a2.toInt + jQf C a1.toInt) by omega] at hr_27_3
            refine lv_goto (tgt := 179) hx hb dX13_with_175 (by decide) ?_
            refine va_calli (A0 := jA base) (H0 := s.heap) (va_runV (As := [.int z_20, .int z_21, .int r_10, .int r_19, .int r_27]) (rest := []) ⟨hx, hb, hml, hown, hts⟩ (uX13_nodeK l dC dI ca base B hB hAp hB15 hB150 hB151 hB152 hB153 hB154 hB165 G0 H_26 r0 z_20 z_21 r_10 r_19 r_27 qn_26 zs zn za zb zc zy D_26) (cwV 5 hts (jgV (jWr_62 _ (List.mem_of_getElem? (i := 9) rfl)) (jWr_62 _ (List.mem_of_getElem? (i := 10) rfl)) (jWr_62 _ (List.mem_of_getElem? (i := 11) rfl)) (jWr_12 _ (List.mem_of_getElem? (i := 12) rfl)) (jWr_62 _ (List.mem_of_getElem? (i := 12) rfl))) rfl rfl rfl (by decide +kernel) ⟨by rw [← hR]; show (0) + 1 ≤ d + 20; omega, by rw [← hR]; show 8 + (6 + 11) + (0) ≤ 60 * d + 400; omega⟩) ⟨fun a U g mk q => by obtain ⟨q0, q1, q2, qK, q10, q11, q12, q13, q14, q15, q16, q17, q18, q19⟩ := q; exact ⟨q0, q1, q2, jG.calling g mk a qK, q10, q11, q12, q13, q14, q15, q16, q17, q18, q19⟩, hh_26.recv (C := RX13) (T := TX13) (N := 50) hB15 rfl (by decide) hg_r0 hK, fun U hU hW => ⟨rfl, hU, hh_26.2.1, hG.step hW hU hh_26.1, hg_r0, hg_zs, hg_zn, hg_za, hg_zb, hg_zc, hg_zy, (hh_26.2.2.1.sub (L1 := [(r0, 15, 5, .int qn_26), (r0, 15, 0, .ref zs), (r0, 15, 1, .ref zn), (r0, 15, 2, .ref za), (r0, 15, 3, .ref zb), (r0, 15, 4, .ref zc), (r0, 15, 14, .ref zy)]) [0, 2, 3, 4, 5, 6, 7] rfl), (hh_26.2.2.2.2.2.2.2.1.sub (L1 := [(zs, 150, 120000, ca 1, D_26.s), (zn, 151, 120000, ca 1, D_26.n), (za, 152, 120000, ca 1, D_26.a), (zb, 153, 120000, ca 1, D_26.b), (zc, 154, 120000, ca 1, D_26.c), (zy, 165, 16, ca 1, D_26.y)]) [0, 1, 2, 3, 4, 5] rfl), by first | omega | (refine ⟨?_, ?_⟩ <;> (first | omega | rfl | assumption | decide | exact Or.inl rfl | exact Or.inr rfl | (simp only; omega)))⟩⟩ rfl rfl hl.1 rfl (lv_room (Nat.le_of_ble_eq_true rfl)) dX13_with_179 ⟨Nat.zero_le _, Nat.zero_le _⟩) hh_26.1 (fun q _ h => h) (fun q h => h) (fun r_29 u_28 t_28 H_28 locs_28 ht_28 hvm_28 hr_29 hb_28 hz_28 hk_28 hS_28 => ?_)
            obtain ⟨qn_28, D_28⟩ := u_28
            rw [ht_28] at hb_28
            obtain ⟨⟨hb_281, hb_282, hb_283, hb_284, hb_285⟩, hb_286⟩ := hb_28
            have hh_28 : jSt (dC, dI) B base G0 G0 EX13_with s.heap 0 0 [(r0, 15, 5, .int qn_28), (r0, 15, 11, .int py), (r0, 15, 0, .ref zs), (r0, 15, 1, .ref zn), (r0, 15, 2, .ref za), (r0, 15, 3, .ref zb), (r0, 15, 4, .ref zc), (r0, 15, 14, .ref zy)] [(zs, 150, 120000, ca 1, D_28.s), (zn, 151, 120000, ca 1, D_28.n), (za, 152, 120000, ca 1, D_28.a), (zb, 153, 120000, ca 1, D_28.b), (zc, 154, 120000, ca 1, D_28.c), (zy, 165, 16, ca 1, D_28.y), (zy, 165, 16, ca 1, D_26.y), (zy, 165, 16, ca 1, D_18.y), (zy, 165, 16, ca 1, D_9.y), (r3, 169, n3, ca 1, T), (zy, 165, 16, ca 1, C.y)] [] H_28 locs_28 := ((hh_26.call hb_281 hb_282 hb_283 hb_284 hS_28 rfl (L1 := [(r0, 15, 11, .int py), (r0, 15, 0, .ref zs), (r0, 15, 1, .ref zn), (r0, 15, 2, .ref za), (r0, 15, 3, .ref zb), (r0, 15, 4, .ref zc), (r0, 15, 14, .ref zy)]) [1, 2, 3, 4, 5, 6, 7] rfl rfl (M1 := [(zy, 165, 16, ca 1, D_26.y), (zy, 165, 16, ca 1, D_18.y), (zy, 165, 16, ca 1, D_9.y), (r3, 169, n3, ca 1, T), (zy, 165, 16, ca 1, C.y)]) [5, 6, 7, 8, 9] rfl rfl (I1 := []) [] rfl rfl).more hb_285).moreM hb_286
            clear hh_26 ht_28 hvm_28 hz_28 hk_28 hS_28 hb_281 hb_282 hb_283 hb_284 hb_285
            clear hb_286
            try simp only at hr_29
            obtain ⟨hr_29_0, hr_29_1, hr_29_2⟩ := hr_29
            first | rw [hqz_20, hqz_21, hso2.1, hso2.2.1] at hr_29_2 | rw [hqz_20, hqz_21, hso1.1, hso1.2.1] at hr_29_2
            rw [hQ]
            exact W.iret (v := r_29) hx hb hr (fun t ht hW => ⟨⟨r_29, (qn_28, D_28), rfl, by
    try dsimp only
    have h00 : jPts C a1.toInt = 3 := by omega
    have key := jRe4 (v := a2.toInt) hp0 ((hr_10_2.tr hr_19_2 hr_10_0).tr hr_27_2 (Int.le_trans hr_10_0 hr_19_0)) (by omega) hr_29_2 hi_2 (by omega) (fun _ => (hr_10_3.ag hr_19_2 hr_19_0).ag hr_27_2 hr_27_0) (fun _ => hr_19_3.ag hr_27_2 hr_27_0) (fun _ => hr_27_3)
    have j1 := jsz_ag hr_19_2 hr_10_3
    have j2 := jsz_ag hr_27_2 hr_19_3
    have j3 := jsz_ag hr_27_2 (hr_10_3.ag hr_19_2 hr_19_0)
    have ys := (jSwK_y C T a4.toInt a2.toInt a1.toInt (jPts C a1.toInt)).2.2.2 h00
    refine ⟨by omega, by omega, key.1, ?_, ?_⟩
    · rw [hr_29_0, hr_29_1]; exact key.2.1.mono (by omega) (Int.le_refl _)
    · rw [hr_29_0, key.2.2.2.2 h00]; omega, ⟨hh_28.rt (M1 := [(r0, 15, 5, .int qn_28)]) [0] rfl ht, by rw [ht]; exact hh_28.2.2.2.2.2.2.2.1.sub [0, 1, 2, 3, 4, 5] rfl⟩⟩, by rw [ht]; try exact hh_28.1.1, fun q h9 hq => by rw [ht]; try exact hh_28.1.2.1 q h9 hq⟩) hh_28.1.2.2 dX13_with_182
      · skip
        have c_7' : r_6.toInt = 0 := jb_ne_n (rfl) ((by decide)) c_7
        refine lv_iload_n hx hb dX13_with_91 rfl (lv_at hl 3 rfl) ?_
        rw [hQ]
        exact W.iret (v := a1) hx hb hr (fun t ht hW => ⟨⟨a1, (pn, C), rfl, by
    try dsimp only
    have h00 : jPts C a1.toInt = 0 := by omega
    obtain ⟨z1, z2⟩ := hp0.leaf (b1 := a2.toInt) h00 hi_2 (e := d + 1600) (by omega)
    have ys := (jSwK_y C T a4.toInt a2.toInt a1.toInt (jPts C a1.toInt)).1 h00
    exact ⟨by omega, by omega, jAgK.rf _ _, z1, by omega⟩, ⟨hh_5.rt (M1 := [(r0, 15, 5, .int pn)]) [0] rfl ht, by rw [ht]; exact hh_5.2.2.2.2.2.2.2.1.sub [1, 2, 3, 4, 5, 6] rfl⟩⟩, by rw [ht]; try exact hh_5.1.1, fun q h9 hq => by rw [ht]; try exact hh_5.1.2.1 q h9 hq⟩) hh_5.1.2.2 dX13_with_92
    refine lv_icmp_eq (tgt := 70) hx hb dX13_with_57 (by decide) (fun c_30 => ?_) (fun c_30 => ?_)
    · skip
      have c_30' : z_3.toInt = 4 := jb_eq (rfl) ((by decide)) c_30
      have hqf := (jQf_ok C a1.toInt).1 (by omega)
      refine lv_iload_n hx hb dX13_with_70 rfl (lv_at hl 2 rfl) ?_
      refine lv_iconst (v := 1) hx hb dX13_with_71 (by decide) ?_
      refine lv_iadd hx hb dX13_with_72 ?_
      refine lv_topi (fun z_31 ez_31 => ?_)
      have hz_31 : z_31.toInt = a2.toInt + 1 := by rw [ez_31]; exact jb_iadd2 (rfl) ((by decide)) (by omega)
      refine lv_goto (tgt := 77) hx hb dX13_with_73 (by decide) ?_
      exact C77 z_31 _ _ hh_2 (by first | omega | rfl | assumption | decide | exact Or.inl rfl | exact Or.inr rfl | (simp only; omega)) _ (lv_sub hl [0, 1, 2, 3, 4] rfl)
    · skip
      have c_30' : z_3.toInt ≠ 4 := jb_eq_n (rfl) ((by decide)) c_30
      refine lv_aload_n hx hb dX13_with_60 rfl (lv_at hl 0 rfl) ?_
      refine j7_read hx hb hown hK (C := RX13) (T := TX13) (N := 50) rfl hly_15_0 hlk_12 (hh_2.at 2 rfl) dX13_with_61 ?_
      refine lv_iload_n hx hb dX13_with_64 rfl (lv_at hl 1 rfl) ?_
      refine j7_ialdM hx hb hK hh_2 hB150 1 rfl (by decide) hg_zs (x := a1.toInt) (rfl) (by omega) (j := 1) rfl dX13_with_65 (fun z_32 ez_32 (hz_32 : True) => ?_)
      have hqz_32 : z_32.toInt = jSo C.s (a1.toInt) := by unfold jSo; rw [ez_32]
      refine lv_iconst (v := 5) hx hb dX13_with_66 (by decide) ?_
      refine lv_icmp_ne (tgt := 76) hx hb dX13_with_67 (by decide) (fun c_33 => ?_) (fun c_33 => ?_)
      · skip
        have c_33' : z_32.toInt ≠ 5 := jb_ne (rfl) ((by decide)) c_33
        have hqf := (jQf_ok C a1.toInt).2.1 (by omega)
        refine lv_iload_n hx hb dX13_with_76 rfl (lv_at hl 2 rfl) ?_
        exact C77 a2 _ _ hh_2 (by first | omega | rfl | assumption | decide | exact Or.inl rfl | exact Or.inr rfl | (simp only; omega)) _ (lv_sub hl [0, 1, 2, 3, 4] rfl)
      · skip
        have c_33' : z_32.toInt = 5 := jb_ne_n (rfl) ((by decide)) c_33
        have hqf := (jQf_ok C a1.toInt).1 (by omega)
        refine lv_iload_n hx hb dX13_with_70 rfl (lv_at hl 2 rfl) ?_
        refine lv_iconst (v := 1) hx hb dX13_with_71 (by decide) ?_
        refine lv_iadd hx hb dX13_with_72 ?_
        refine lv_topi (fun z_34 ez_34 => ?_)
        have hz_34 : z_34.toInt = a2.toInt + 1 := by rw [ez_34]; exact jb_iadd2 (rfl) ((by decide)) (by omega)
        refine lv_goto (tgt := 77) hx hb dX13_with_73 (by decide) ?_
        exact C77 z_34 _ _ hh_2 (by first | omega | rfl | assumption | decide | exact Or.inl rfl | exact Or.inr rfl | (simp only; omega)) _ (lv_sub hl [0, 1, 2, 3, 4] rfl)
  refine lv_icmp_ne (tgt := 50) hx hb dX13_with_8 (by decide) (fun c_35 => ?_) (fun c_35 => ?_)
  · skip
    have c_35' : z_1.toInt ≠ 10 := jb_ne (rfl) ((by decide)) c_35
    exact C50  _ _ hh (by first | omega | rfl | assumption | decide | exact Or.inl rfl | exact Or.inr rfl | (simp only; omega)) _ (lv_sub hl [0, 1, 2, 3, 4] rfl)
  · skip
    have c_35' : z_1.toInt = 10 := jb_ne_n (rfl) ((by decide)) c_35
    refine lv_aload_n hx hb dX13_with_11 rfl (lv_at hl 0 rfl) ?_
    refine j7_read hx hb hown hK (C := RX13) (T := TX13) (N := 50) rfl hly_15_1 hlk_16 (hh.at 3 rfl) dX13_with_12 ?_
    refine lv_iload_n hx hb dX13_with_15 rfl (lv_at hl 1 rfl) ?_
    refine j7_ialdM hx hb hK hh hB151 1 rfl (by decide) hg_zn (x := a1.toInt) (rfl) (by omega) (j := 2) rfl dX13_with_16 (fun z_36 ez_36 (hz_36 : True) => ?_)
    have hqz_36 : z_36.toInt = jSo C.n (a1.toInt) := by unfold jSo; rw [ez_36]
    refine lv_iload_n hx hb dX13_with_17 rfl (lv_at hl 2 rfl) ?_
    refine lv_icmp_lt (tgt := 50) hx hb dX13_with_18 (by decide) (fun c_37 => ?_) (fun c_37 => ?_)
    · skip
      have c_37' : z_36.toInt < a2.toInt := jb_lt (rfl) (rfl) c_37
      exact C50  _ _ hh (by first | omega | rfl | assumption | decide | exact Or.inl rfl | exact Or.inr rfl | (simp only; omega)) _ (lv_sub hl [0, 1, 2, 3, 4] rfl)
    · skip
      have c_37' : z_36.toInt ≥ a2.toInt := jb_lt_n (rfl) (rfl) c_37
      have hb10 := hp0.bnd (by omega)
      refine lv_aload_n hx hb dX13_with_21 rfl (lv_at hl 0 rfl) ?_
      refine j7_read hx hb hown hK (C := RX13) (T := TX13) (N := 50) rfl hly_15_1 hlk_16 (hh.at 3 rfl) dX13_with_22 ?_
      refine lv_iload_n hx hb dX13_with_25 rfl (lv_at hl 1 rfl) ?_
      refine j7_ialdM hx hb hK hh hB151 1 rfl (by decide) hg_zn (x := a1.toInt) (rfl) (by omega) (j := 2) rfl dX13_with_26 (fun z_38 ez_38 (hz_38 : True) => ?_)
      have hqz_38 : z_38.toInt = jSo C.n (a1.toInt) := by unfold jSo; rw [ez_38]
      refine lv_iload_n hx hb dX13_with_27 rfl (lv_at hl 2 rfl) ?_
      refine lv_iload hx hb dX13_with_28 (lv_at hl 4 rfl) ?_
      refine lv_iadd hx hb dX13_with_30 ?_
      refine lv_topi (fun z_39 ez_39 => ?_)
      have hz_39 : z_39.toInt = a2.toInt + a4.toInt := by rw [ez_39]; exact jb_iadd2 (rfl) (rfl) (by omega)
      refine lv_icmp_ge (tgt := 50) hx hb dX13_with_31 (by decide) (fun c_40 => ?_) (fun c_40 => ?_)
      · skip
        have c_40' : z_38.toInt ≥ z_39.toInt := jb_ge (rfl) (rfl) c_40
        exact C50  _ _ hh (by first | omega | rfl | assumption | decide | exact Or.inl rfl | exact Or.inr rfl | (simp only; omega)) _ (lv_sub hl [0, 1, 2, 3, 4] rfl)
      · skip
        have c_40' : z_38.toInt < z_39.toInt := jb_ge_n (rfl) (rfl) c_40
        refine lv_aload_n hx hb dX13_with_34 rfl (lv_at hl 3 rfl) ?_
        refine lv_iload hx hb dX13_with_35 (lv_at hl 4 rfl) ?_
        refine lv_iconst (v := 1) hx hb dX13_with_37 (by decide) ?_
        refine lv_isub hx hb dX13_with_38 ?_
        refine lv_topi (fun z_41 ez_41 => ?_)
        have hz_41 : z_41.toInt = a4.toInt - 1 := by rw [ez_41]; exact jb_isub2 (rfl) ((by decide)) (by omega)
        refine lv_aload_n hx hb dX13_with_39 rfl (lv_at hl 0 rfl) ?_
        refine j7_read hx hb hown hK (C := RX13) (T := TX13) (N := 50) rfl hly_15_1 hlk_16 (hh.at 3 rfl) dX13_with_40 ?_
        refine lv_iload_n hx hb dX13_with_43 rfl (lv_at hl 1 rfl) ?_
        refine j7_ialdM hx hb hK hh hB151 1 rfl (by decide) hg_zn (x := a1.toInt) (rfl) (by omega) (j := 2) rfl dX13_with_44 (fun z_42 ez_42 (hz_42 : True) => ?_)
        have hqz_42 : z_42.toInt = jSo C.n (a1.toInt) := by unfold jSo; rw [ez_42]
        refine lv_isub hx hb dX13_with_45 ?_
        refine lv_topi (fun z_43 ez_43 => ?_)
        have hz_43 : z_43.toInt = z_41.toInt - z_42.toInt := by rw [ez_43]; exact jb_isub2 (rfl) (rfl) (by omega)
        refine lv_iload_n hx hb dX13_with_46 rfl (lv_at hl 2 rfl) ?_
        refine lv_iadd hx hb dX13_with_47 ?_
        refine lv_topi (fun z_44 ez_44 => ?_)
        have hz_44 : z_44.toInt = z_43.toInt + a2.toInt := by rw [ez_44]; exact jb_iadd2 (rfl) (rfl) (by omega)
        refine j7_ialdM hx hb hK hh hB169 1 rfl (by decide) hg_r3 (x := z_44.toInt) (rfl) (by omega) (j := 0) rfl dX13_with_48 (fun z_45 ez_45 (hz_45 : True) => ?_)
        have hqz_45 : z_45.toInt = jSo T ((((a4.toInt - 1) - z_42.toInt) + a2.toInt)) := by unfold jSo; rw [ez_45, show z_44.toInt = (((a4.toInt - 1) - z_42.toInt) + a2.toInt) by omega]
        rw [hQ]
        exact W.iret (v := z_45) hx hb hr (fun t ht hW => ⟨⟨z_45, (pn, C), rfl, by
    try dsimp only
    refine ⟨by omega, ?_, jAgK.rf _ _, ?_, ?_⟩
    · have := jSw_nn C T a4.toInt a2.toInt a1.toInt; omega
    · rw [hqz_45]; exact (hp1 _ (by omega) (by omega)).1.mono (by omega) (by omega)
    · rw [jSw_step (T := T) (m := a4.toInt) hp0 (by omega) a2.toInt, if_pos (by omega), hqz_45, hqz_42], ⟨hh.rt (M1 := [(r0, 15, 5, .int pn)]) [0] rfl ht, by rw [ht]; exact hh.2.2.2.2.2.2.2.1.sub [1, 2, 3, 4, 5, 6] rfl⟩⟩, by rw [ht]; try exact hh.1.1, fun q h9 hq => by rw [ht]; try exact hh.1.2.1 q h9 hq⟩) hh.1.2.2 dX13_with_49
theorem aX13_with (l : Launch) (dC : Nat → ClassId) (dI : Nat → Nat → Nat) (ca : Nat → ClassId) (base : Nat) (B : jF) (hB : jBok B) (hAp : jAp (dC, dI)) (hB15 : ∀ n G a H, B 15 n G a H ↔ jOb (dC, dI) 15 50 (F15 n G) a H) (hB150 : ∀ n G a H, B 150 n G a H ↔ jAr (dC, dI) (ca 1) (fun j z => True) n a H) (hB151 : ∀ n G a H, B 151 n G a H ↔ jAr (dC, dI) (ca 1) (fun j z => True) n a H) (hB152 : ∀ n G a H, B 152 n G a H ↔ jAr (dC, dI) (ca 1) (fun j z => True) n a H) (hB153 : ∀ n G a H, B 153 n G a H ↔ jAr (dC, dI) (ca 1) (fun j z => True) n a H) (hB154 : ∀ n G a H, B 154 n G a H ↔ jAr (dC, dI) (ca 1) (fun j z => True) n a H) (hB165 : ∀ n G a H, B 165 n G a H ↔ jAr (dC, dI) (ca 1) (fun j z => 0 ≤ z.toInt ∧ z.toInt ≤ 3) n a H) (hB169 : ∀ n G a H, B 169 n G a H ↔ jAr (dC, dI) (ca 1) (fun j z => True) n a H) : ∀ ef, qX13_with l dC dI ca base B ef := fun ef => Nat.strongRecOn ef (fun e ih => fun G0 H0 r0 a1 a2 r3 a4 n3 pn py zs zn za zb zc zy T C => uX13_with l dC dI ca base B hB hAp hB15 hB150 hB151 hB152 hB153 hB154 hB165 hB169 e ih G0 H0 r0 a1 a2 r3 a4 n3 pn py zs zn za zb zc zy T C)
end
section
theorem dX13_replaced_0 : decode cX13_replaced 0 = .ok (.aload_n 0, 1) := by decide +kernel
theorem dX13_replaced_1 : decode cX13_replaced 1 = .ok (.iload_n 1, 1) := by decide +kernel
theorem dX13_replaced_2 : decode cX13_replaced 2 = .ok (.iload_n 2, 1) := by decide +kernel
theorem dX13_replaced_3 : decode cX13_replaced 3 = .ok (.invokevirtual 262, 3) := by decide +kernel
theorem dX13_replaced_6 : decode cX13_replaced 6 = .ok (.ifCond .eq 5, 3) := by decide +kernel
theorem dX13_replaced_9 : decode cX13_replaced 9 = .ok (.iload_n 3, 1) := by decide +kernel
theorem dX13_replaced_10 : decode cX13_replaced 10 = .ok (.ireturn, 1) := by decide +kernel
theorem dX13_replaced_11 : decode cX13_replaced 11 = .ok (.aload_n 0, 1) := by decide +kernel
theorem dX13_replaced_12 : decode cX13_replaced 12 = .ok (.iload_n 1, 1) := by decide +kernel
theorem dX13_replaced_13 : decode cX13_replaced 13 = .ok (.invokevirtual 252, 3) := by decide +kernel
theorem dX13_replaced_16 : decode cX13_replaced 16 = .ok (.istore 4, 2) := by decide +kernel
theorem dX13_replaced_18 : decode cX13_replaced 18 = .ok (.iload 4, 2) := by decide +kernel
theorem dX13_replaced_20 : decode cX13_replaced 20 = .ok (.ifCond .ne 5, 3) := by decide +kernel
theorem dX13_replaced_23 : decode cX13_replaced 23 = .ok (.iload_n 1, 1) := by decide +kernel
theorem dX13_replaced_24 : decode cX13_replaced 24 = .ok (.ireturn, 1) := by decide +kernel
theorem dX13_replaced_25 : decode cX13_replaced 25 = .ok (.aload_n 0, 1) := by decide +kernel
theorem dX13_replaced_26 : decode cX13_replaced 26 = .ok (.aload_n 0, 1) := by decide +kernel
theorem dX13_replaced_27 : decode cX13_replaced 27 = .ok (.getfield 19, 3) := by decide +kernel
theorem dX13_replaced_30 : decode cX13_replaced 30 = .ok (.iload_n 1, 1) := by decide +kernel
theorem dX13_replaced_31 : decode cX13_replaced 31 = .ok (.iaload, 1) := by decide +kernel
theorem dX13_replaced_32 : decode cX13_replaced 32 = .ok (.iload_n 2, 1) := by decide +kernel
theorem dX13_replaced_33 : decode cX13_replaced 33 = .ok (.iload_n 3, 1) := by decide +kernel
theorem dX13_replaced_34 : decode cX13_replaced 34 = .ok (.invokevirtual 283, 3) := by decide +kernel
theorem dX13_replaced_37 : decode cX13_replaced 37 = .ok (.istore 5, 2) := by decide +kernel
theorem dX13_replaced_39 : decode cX13_replaced 39 = .ok (.iload 4, 2) := by decide +kernel
theorem dX13_replaced_41 : decode cX13_replaced 41 = .ok (.iconst 1, 1) := by decide +kernel
theorem dX13_replaced_42 : decode cX13_replaced 42 = .ok (.if_icmp .le 18, 3) := by decide +kernel
theorem dX13_replaced_45 : decode cX13_replaced 45 = .ok (.aload_n 0, 1) := by decide +kernel
theorem dX13_replaced_46 : decode cX13_replaced 46 = .ok (.aload_n 0, 1) := by decide +kernel
theorem dX13_replaced_47 : decode cX13_replaced 47 = .ok (.getfield 22, 3) := by decide +kernel
theorem dX13_replaced_50 : decode cX13_replaced 50 = .ok (.iload_n 1, 1) := by decide +kernel
theorem dX13_replaced_51 : decode cX13_replaced 51 = .ok (.iaload, 1) := by decide +kernel
theorem dX13_replaced_52 : decode cX13_replaced 52 = .ok (.iload_n 2, 1) := by decide +kernel
theorem dX13_replaced_53 : decode cX13_replaced 53 = .ok (.iload_n 3, 1) := by decide +kernel
theorem dX13_replaced_54 : decode cX13_replaced 54 = .ok (.invokevirtual 283, 3) := by decide +kernel
theorem dX13_replaced_57 : decode cX13_replaced 57 = .ok (.goto 4, 3) := by decide +kernel
theorem dX13_replaced_60 : decode cX13_replaced 60 = .ok (.iconst 0, 1) := by decide +kernel
theorem dX13_replaced_61 : decode cX13_replaced 61 = .ok (.istore 6, 2) := by decide +kernel
theorem dX13_replaced_63 : decode cX13_replaced 63 = .ok (.aload_n 0, 1) := by decide +kernel
theorem dX13_replaced_64 : decode cX13_replaced 64 = .ok (.aload_n 0, 1) := by decide +kernel
theorem dX13_replaced_65 : decode cX13_replaced 65 = .ok (.getfield 12, 3) := by decide +kernel
theorem dX13_replaced_68 : decode cX13_replaced 68 = .ok (.iload_n 1, 1) := by decide +kernel
theorem dX13_replaced_69 : decode cX13_replaced 69 = .ok (.iaload, 1) := by decide +kernel
theorem dX13_replaced_70 : decode cX13_replaced 70 = .ok (.aload_n 0, 1) := by decide +kernel
theorem dX13_replaced_71 : decode cX13_replaced 71 = .ok (.getfield 16, 3) := by decide +kernel
theorem dX13_replaced_74 : decode cX13_replaced 74 = .ok (.iload_n 1, 1) := by decide +kernel
theorem dX13_replaced_75 : decode cX13_replaced 75 = .ok (.iaload, 1) := by decide +kernel
theorem dX13_replaced_76 : decode cX13_replaced 76 = .ok (.iload 5, 2) := by decide +kernel
theorem dX13_replaced_78 : decode cX13_replaced 78 = .ok (.iload 6, 2) := by decide +kernel
theorem dX13_replaced_80 : decode cX13_replaced 80 = .ok (.iload 4, 2) := by decide +kernel
theorem dX13_replaced_82 : decode cX13_replaced 82 = .ok (.iconst 2, 1) := by decide +kernel
theorem dX13_replaced_83 : decode cX13_replaced 83 = .ok (.if_icmp .le 18, 3) := by decide +kernel
theorem dX13_replaced_86 : decode cX13_replaced 86 = .ok (.aload_n 0, 1) := by decide +kernel
theorem dX13_replaced_87 : decode cX13_replaced 87 = .ok (.aload_n 0, 1) := by decide +kernel
theorem dX13_replaced_88 : decode cX13_replaced 88 = .ok (.getfield 25, 3) := by decide +kernel
theorem dX13_replaced_91 : decode cX13_replaced 91 = .ok (.iload_n 1, 1) := by decide +kernel
theorem dX13_replaced_92 : decode cX13_replaced 92 = .ok (.iaload, 1) := by decide +kernel
theorem dX13_replaced_93 : decode cX13_replaced 93 = .ok (.iload_n 2, 1) := by decide +kernel
theorem dX13_replaced_94 : decode cX13_replaced 94 = .ok (.iload_n 3, 1) := by decide +kernel
theorem dX13_replaced_95 : decode cX13_replaced 95 = .ok (.invokevirtual 283, 3) := by decide +kernel
theorem dX13_replaced_98 : decode cX13_replaced 98 = .ok (.goto 4, 3) := by decide +kernel
theorem dX13_replaced_101 : decode cX13_replaced 101 = .ok (.iconst 0, 1) := by decide +kernel
theorem dX13_replaced_102 : decode cX13_replaced 102 = .ok (.invokevirtual 197, 3) := by decide +kernel
theorem dX13_replaced_105 : decode cX13_replaced 105 = .ok (.ireturn, 1) := by decide +kernel
def EX13_replaced : List (Nat × Nat) := [(15, 5), (150, 0), (151, 0), (152, 0), (153, 0), (154, 0)]
def qX13_replaced (l : Launch) (dC : Nat → ClassId) (dI : Nat → Nat → Nat) (ca : Nat → ClassId) (base : Nat) (B : jF) (d : Nat) : Prop := ∀ (G0 : jT) (H0 : Heap) (r0 : Nat) (a1 : Int32) (a2 : Int32) (a3 : Int32) (pn : Int32) (py : Int32) (zs : Nat) (zn : Nat) (za : Nat) (zb : Nat) (zc : Nat) (zy : Nat) (gb : Int) (C : jK), Met l yX13_replaced (jw yX13_replaced cX13_replaced 7 (some .int)) ({ frames := d + 90, cells := 0, slots := 0, locals := 60 * d + 6000 }) (va_Pc [.ref r0, .int a1, .int a2, .int a3] (fun U => U.heap = H0 ∧ jX B base G0 [] H0 ∧ jG dC dI ca base U ∧ G0 r0 = some (15, 0) ∧ G0 zs = some (150, 120000) ∧ G0 zn = some (151, 120000) ∧ G0 za = some (152, 120000) ∧ G0 zb = some (153, 120000) ∧ G0 zc = some (154, 120000) ∧ G0 zy = some (165, 16) ∧ jP (dC, dI) G0 H0 [(r0, 15, 5, .int pn), (r0, 15, 11, .int py), (r0, 15, 0, .ref zs), (r0, 15, 1, .ref zn), (r0, 15, 2, .ref za), (r0, 15, 3, .ref zb), (r0, 15, 4, .ref zc), (r0, 15, 14, .ref zy)] ∧ jMc (dC, dI) G0 H0 [(zs, 150, 120000, ca 1, C.s), (zn, 151, 120000, ca 1, C.n), (za, 152, 120000, ca 1, C.a), (zb, 153, 120000, ca 1, C.b), (zc, 154, 120000, ca 1, C.c), (zy, 165, 16, ca 1, C.y)] ∧ jFm C pn.toInt py.toInt d gb a1.toInt ∧ jFm C pn.toInt py.toInt 80 0 a2.toInt ∧ jFm C pn.toInt py.toInt 80 0 a3.toInt ∧ d ≤ 80 ∧ 0 ≤ gb ∧ 0 ≤ pn.toInt ∧ pn.toInt + jsz C a1.toInt ≤ 119999 ∧ 0 ≤ py.toInt ∧ py.toInt ≤ 16)) (va_Qi (S := Int32 × jK) (fun r u => (pn.toInt ≤ u.1.toInt ∧ u.1.toInt ≤ pn.toInt + jsz C a1.toInt ∧ jAgK C u.2 pn.toInt ∧ jFm u.2 u.1.toInt py.toInt (d + 80) gb r.toInt ∧ jsz u.2 r.toInt = jsz C a1.toInt + jCd C a2.toInt a3.toInt a1.toInt)) (fun u t => jRt (dC, dI) B base G0 EX13_replaced H0 [(r0, 15, 5, .int u.1)] t.heap ∧ jMc (dC, dI) G0 t.heap [(zs, 150, 120000, ca 1, u.2.s), (zn, 151, 120000, ca 1, u.2.n), (za, 152, 120000, ca 1, u.2.a), (zb, 153, 120000, ca 1, u.2.b), (zc, 154, 120000, ca 1, u.2.c), (zy, 165, 16, ca 1, u.2.y)]) (jA base)) 0 0 (jA base)
set_option maxHeartbeats 4000000 in
set_option maxRecDepth 20000 in
theorem uX13_replaced (l : Launch) (dC : Nat → ClassId) (dI : Nat → Nat → Nat) (ca : Nat → ClassId) (base : Nat) (B : jF) (hB : jBok B) (hAp : jAp (dC, dI)) (hB15 : ∀ n G a H, B 15 n G a H ↔ jOb (dC, dI) 15 50 (F15 n G) a H) (hB150 : ∀ n G a H, B 150 n G a H ↔ jAr (dC, dI) (ca 1) (fun j z => True) n a H) (hB151 : ∀ n G a H, B 151 n G a H ↔ jAr (dC, dI) (ca 1) (fun j z => True) n a H) (hB152 : ∀ n G a H, B 152 n G a H ↔ jAr (dC, dI) (ca 1) (fun j z => True) n a H) (hB153 : ∀ n G a H, B 153 n G a H ↔ jAr (dC, dI) (ca 1) (fun j z => True) n a H) (hB154 : ∀ n G a H, B 154 n G a H ↔ jAr (dC, dI) (ca 1) (fun j z => True) n a H) (hB165 : ∀ n G a H, B 165 n G a H ↔ jAr (dC, dI) (ca 1) (fun j z => 0 ≤ z.toInt ∧ z.toInt ≤ 3) n a H) (d : Nat) (ih : ∀ d1, d1 < d → qX13_replaced l dC dI ca base B d1) (G0 : jT) (H0 : Heap) (r0 : Nat) (a1 : Int32) (a2 : Int32) (a3 : Int32) (pn : Int32) (py : Int32) (zs : Nat) (zn : Nat) (za : Nat) (zb : Nat) (zc : Nat) (zy : Nat) (gb : Int) (C : jK) : Met l yX13_replaced (jw yX13_replaced cX13_replaced 7 (some .int)) ({ frames := d + 90, cells := 0, slots := 0, locals := 60 * d + 6000 }) (va_Pc [.ref r0, .int a1, .int a2, .int a3] (fun U => U.heap = H0 ∧ jX B base G0 [] H0 ∧ jG dC dI ca base U ∧ G0 r0 = some (15, 0) ∧ G0 zs = some (150, 120000) ∧ G0 zn = some (151, 120000) ∧ G0 za = some (152, 120000) ∧ G0 zb = some (153, 120000) ∧ G0 zc = some (154, 120000) ∧ G0 zy = some (165, 16) ∧ jP (dC, dI) G0 H0 [(r0, 15, 5, .int pn), (r0, 15, 11, .int py), (r0, 15, 0, .ref zs), (r0, 15, 1, .ref zn), (r0, 15, 2, .ref za), (r0, 15, 3, .ref zb), (r0, 15, 4, .ref zc), (r0, 15, 14, .ref zy)] ∧ jMc (dC, dI) G0 H0 [(zs, 150, 120000, ca 1, C.s), (zn, 151, 120000, ca 1, C.n), (za, 152, 120000, ca 1, C.a), (zb, 153, 120000, ca 1, C.b), (zc, 154, 120000, ca 1, C.c), (zy, 165, 16, ca 1, C.y)] ∧ jFm C pn.toInt py.toInt d gb a1.toInt ∧ jFm C pn.toInt py.toInt 80 0 a2.toInt ∧ jFm C pn.toInt py.toInt 80 0 a3.toInt ∧ d ≤ 80 ∧ 0 ≤ gb ∧ 0 ≤ pn.toInt ∧ pn.toInt + jsz C a1.toInt ≤ 119999 ∧ 0 ≤ py.toInt ∧ py.toInt ≤ 16)) (va_Qi (S := Int32 × jK) (fun r u => (pn.toInt ≤ u.1.toInt ∧ u.1.toInt ≤ pn.toInt + jsz C a1.toInt ∧ jAgK C u.2 pn.toInt ∧ jFm u.2 u.1.toInt py.toInt (d + 80) gb r.toInt ∧ jsz u.2 r.toInt = jsz C a1.toInt + jCd C a2.toInt a3.toInt a1.toInt)) (fun u t => jRt (dC, dI) B base G0 EX13_replaced H0 [(r0, 15, 5, .int u.1)] t.heap ∧ jMc (dC, dI) G0 t.heap [(zs, 150, 120000, ca 1, u.2.s), (zn, 151, 120000, ca 1, u.2.n), (za, 152, 120000, ca 1, u.2.a), (zb, 153, 120000, ca 1, u.2.b), (zc, 154, 120000, ca 1, u.2.c), (zy, 165, 16, ca 1, u.2.y)]) (jA base)) 0 0 (jA base) := by
  refine Met.ofW (cc := cX13_replaced) (maxL := 7) (ret := (some .int)) (by decide) rfl ?_
  intro p e s m args below meth c s₁ Bd hml hv
  obtain ⟨rfl, hH0, hX, hG, hg_r0, hg_zs, hg_zn, hg_za, hg_zb, hg_zc, hg_zy, hP0, hM0, hp0, hp1, hp2, hp3, hp4, hp5, hp6, hp7, hp8⟩ := hv
  have hK := hG.1
  have hx := Bd.exec
  have hb := Bd.bytes
  have hr := Bd.returns
  have hts := atoms_spec (ws := (jw yX13_replaced cX13_replaced 7 (some .int))) Bd.pre
  have htw : ∀ w ∈ jWl, w.before _ s = true := fun w h => hts w (List.mem_cons_of_mem _ h)
  have hown : s.vm.findClass RX13 = some m.cls := findClass_of_methodNamed Bd.named
  have hlocks := Bd.notSynchronized
  obtain ⟨Q, hQ⟩ : ∃ Q, Q = MQ below (va_Qi (S := Int32 × jK) (fun r u => (pn.toInt ≤ u.1.toInt ∧ u.1.toInt ≤ pn.toInt + jsz C a1.toInt ∧ jAgK C u.2 pn.toInt ∧ jFm u.2 u.1.toInt py.toInt (d + 80) gb r.toInt ∧ jsz u.2 r.toInt = jsz C a1.toInt + jCd C a2.toInt a3.toInt a1.toInt)) (fun u t => jRt (dC, dI) B base G0 EX13_replaced H0 [(r0, 15, 5, .int u.1)] t.heap ∧ jMc (dC, dI) G0 t.heap [(zs, 150, 120000, ca 1, u.2.s), (zn, 151, 120000, ca 1, u.2.n), (za, 152, 120000, ca 1, u.2.a), (zb, 153, 120000, ca 1, u.2.b), (zc, 154, 120000, ca 1, u.2.c), (zy, 165, 16, ca 1, u.2.y)]) (jA base)) ([.ref r0, .int a1, .int a2, .int a3] : List Value).toArray s 0 0 (jA base) := ⟨_, rfl⟩
  rw [← hQ]
  have hl := lv_entry ([.ref r0, .int a1, .int a2, .int a3]) (n := 7) (Nat.le_of_ble_eq_true rfl)
  rw [lg_entry_eq]
  generalize (lg_sl ([.ref r0, .int a1, .int a2, .int a3]) ++ List.replicate (7 - (lg_sl ([.ref r0, .int a1, .int a2, .int a3])).length) Slot.unset).toArray = ls at hl ⊢
  have hl : lv_has ls 7 [(0, .ref r0), (1, .int a1), (2, .int a2), (3, .int a3)] := hl
  generalize hR : (headSpec (jw yX13_replaced cX13_replaced 7 (some .int)) ({ frames := d + 90, cells := 0, slots := 0, locals := 60 * d + 6000 })).room = R
  subst hH0
  have hh : jSt (dC, dI) B base G0 G0 EX13_replaced s.heap 0 0 [(r0, 15, 5, .int pn), (r0, 15, 11, .int py), (r0, 15, 0, .ref zs), (r0, 15, 1, .ref zn), (r0, 15, 2, .ref za), (r0, 15, 3, .ref zb), (r0, 15, 4, .ref zc), (r0, 15, 14, .ref zy)] [(zs, 150, 120000, ca 1, C.s), (zn, 151, 120000, ca 1, C.n), (za, 152, 120000, ca 1, C.a), (zb, 153, 120000, ca 1, C.b), (zc, 154, 120000, ca 1, C.c), (zy, 165, 16, ca 1, C.y)] [] s.heap [] := jSt.start hX hP0 hM0 jIs.nil
  clear hX hP0
  have hk0 : (0 : Int32).toInt = 0 := by decide
  have hk1 : (1 : Int32).toInt = 1 := by decide
  have hk2 : (2 : Int32).toInt = 2 := by decide
  have hly_15_0 := htw (u_lay RX13 TX13 0) (jWc_wsX130 _ (u_in_lay (by decide)))
  have hly_15_1 := htw (u_lay RX13 TX13 1) (jWc_wsX130 _ (u_in_lay (by decide)))
  have hly_15_2 := htw (u_lay RX13 TX13 2) (jWc_wsX130 _ (u_in_lay (by decide)))
  have hly_15_3 := htw (u_lay RX13 TX13 3) (jWc_wsX130 _ (u_in_lay (by decide)))
  have hly_15_4 := htw (u_lay RX13 TX13 4) (jWc_wsX130 _ (u_in_lay (by decide)))
  have hlk_19 := (htw (.fieldLink RX13 19 "ProofServerModel$Kernel" "one" "[I") (jWr_14 _ (List.mem_of_getElem? (i := 11) rfl)))
  have hlk_22 := (htw (.fieldLink RX13 22 "ProofServerModel$Kernel" "two" "[I") (jWr_14 _ (List.mem_of_getElem? (i := 12) rfl)))
  have hlk_12 := (htw (.fieldLink RX13 12 "ProofServerModel$Kernel" "sort" "[I") (jWr_14 _ (List.mem_of_getElem? (i := 9) rfl)))
  have hlk_16 := (htw (.fieldLink RX13 16 "ProofServerModel$Kernel" "name" "[I") (jWr_14 _ (List.mem_of_getElem? (i := 10) rfl)))
  have hlk_25 := (htw (.fieldLink RX13 25 "ProofServerModel$Kernel" "three" "[I") (jWr_14 _ (List.mem_of_getElem? (i := 13) rfl)))
  have hrg_a1 := jb_rng a1
  have hrg_a2 := jb_rng a2
  have hrg_a3 := jb_rng a3
  obtain ⟨g1, g2, g3, g4, -, -, -, g8, g9⟩ := hp0.nd
  have hpos := hp0.pos
  have h0p := jsz_nn C a1.toInt
  have htr := hp0.tr (by omega) (by omega)
  have hst := jsz_step hp0 (by omega)
  have h01 := jSm_le C a1.toInt a2.toInt
  have hq01 := (jQf_ok C a1.toInt).2.2
  refine lv_aload_n hx hb dX13_replaced_0 rfl (lv_at hl 0 rfl) ?_
  refine lv_iload_n hx hb dX13_replaced_1 rfl (lv_at hl 1 rfl) ?_
  refine lv_iload_n hx hb dX13_replaced_2 rfl (lv_at hl 2 rfl) ?_
  refine va_calli (A0 := jA base) (H0 := s.heap) (va_runV (As := [.int a1, .int a2]) (rest := []) ⟨hx, hb, hml, hown, hts⟩ (aX13_isSame l dC dI ca base B hB hAp hB15 hB150 hB151 hB152 hB153 hB154 hB165 80 G0 s.heap r0 a1 a2 zs zn za zb zc zy C) (cwV 2 hts (jgV (jWr_67 _ (List.mem_of_getElem? (i := 11) rfl)) (jWr_67 _ (List.mem_of_getElem? (i := 12) rfl)) (jWr_67 _ (List.mem_of_getElem? (i := 13) rfl)) (jWr_12 _ (List.mem_of_getElem? (i := 12) rfl)) (jWr_67 _ (List.mem_of_getElem? (i := 14) rfl))) rfl rfl rfl (by decide +kernel) ⟨by rw [← hR]; show (83) + 1 ≤ d + 90; omega, by rw [← hR]; show 8 + (5 + 11) + (3400) ≤ 60 * d + 6000; omega⟩) ⟨fun a U g mk q => by obtain ⟨q0, q1, q2, qK, q10, q11, q12, q13, q14, q15, q16, q17, q18, q19⟩ := q; exact ⟨q0, q1, q2, jG.calling g mk a qK, q10, q11, q12, q13, q14, q15, q16, q17, q18, q19⟩, hh.recv (C := RX13) (T := TX13) (N := 50) hB15 rfl (by decide) hg_r0 hK, fun U hU hW => ⟨rfl, hU, hh.2.1, hG.step hW hU hh.1, hg_r0, hg_zs, hg_zn, hg_za, hg_zb, hg_zc, hg_zy, (hh.2.2.1.sub (L1 := [(r0, 15, 0, .ref zs), (r0, 15, 1, .ref zn), (r0, 15, 2, .ref za), (r0, 15, 3, .ref zb), (r0, 15, 4, .ref zc), (r0, 15, 14, .ref zy)]) [2, 3, 4, 5, 6, 7] rfl), (hh.2.2.2.2.2.2.2.1.sub (L1 := [(zs, 150, 120000, ca 1, C.s), (zn, 151, 120000, ca 1, C.n), (za, 152, 120000, ca 1, C.a), (zb, 153, 120000, ca 1, C.b), (zc, 154, 120000, ca 1, C.c), (zy, 165, 16, ca 1, C.y)]) [0, 1, 2, 3, 4, 5] rfl), ⟨(by first | assumption | exact htr.mono (by omega) | exact hp1.tr (by omega) (by omega) | omega), (by first | assumption | exact htr.mono (by omega) | exact hp1.tr (by omega) (by omega) | omega), (by first | omega | rfl | assumption | exact htr.mono (by omega) | exact hp1.tr (by omega) (by omega))⟩⟩⟩ rfl rfl hl.1 rfl (lv_room (Nat.le_of_ble_eq_true rfl)) dX13_replaced_3 ⟨Nat.zero_le _, Nat.zero_le _⟩) hh.1 (fun q _ h => h) (fun q h => h) (fun r_2 u_1 t_1 H_1 locs_1 ht_1 hvm_1 hr_2 hb_1 hz_1 hk_1 hS_1 => ?_)
  rw [ht_1] at hb_1
  obtain ⟨hb_11, hb_12, hb_13, hb_14, hb_15⟩ := hb_1
  have hh_1 : jSt (dC, dI) B base G0 G0 EX13_replaced s.heap 0 0 [(r0, 15, 5, .int pn), (r0, 15, 11, .int py), (r0, 15, 0, .ref zs), (r0, 15, 1, .ref zn), (r0, 15, 2, .ref za), (r0, 15, 3, .ref zb), (r0, 15, 4, .ref zc), (r0, 15, 14, .ref zy)] [(zs, 150, 120000, ca 1, C.s), (zn, 151, 120000, ca 1, C.n), (za, 152, 120000, ca 1, C.a), (zb, 153, 120000, ca 1, C.b), (zc, 154, 120000, ca 1, C.c), (zy, 165, 16, ca 1, C.y)] [] H_1 locs_1 := ((hh.call hb_11 hb_12 hb_13 hb_14 hS_1 rfl (L1 := [(r0, 15, 5, .int pn), (r0, 15, 11, .int py), (r0, 15, 0, .ref zs), (r0, 15, 1, .ref zn), (r0, 15, 2, .ref za), (r0, 15, 3, .ref zb), (r0, 15, 4, .ref zc), (r0, 15, 14, .ref zy)]) [0, 1, 2, 3, 4, 5, 6, 7] rfl rfl (M1 := [(zs, 150, 120000, ca 1, C.s), (zn, 151, 120000, ca 1, C.n), (za, 152, 120000, ca 1, C.a), (zb, 153, 120000, ca 1, C.b), (zc, 154, 120000, ca 1, C.c), (zy, 165, 16, ca 1, C.y)]) [0, 1, 2, 3, 4, 5] rfl rfl (I1 := []) [] rfl rfl).more hb_15)
  clear hh ht_1 hvm_1 hz_1 hk_1 hS_1 hb_11 hb_12 hb_13 hb_14 hb_15
  obtain ⟨hr_2b, hr_2p⟩ := hr_2
  have hr_2' := jb_01 hr_2b
  refine lv_if_eq (tgt := 11) hx hb dX13_replaced_6 (by decide) (fun c_3 => ?_) (fun c_3 => ?_)
  · skip
    have c_3' : r_2.toInt = 0 := jb_eq (rfl) ((by decide)) c_3
    refine lv_aload_n hx hb dX13_replaced_11 rfl (lv_at hl 0 rfl) ?_
    refine lv_iload_n hx hb dX13_replaced_12 rfl (lv_at hl 1 rfl) ?_
    refine va_calli (A0 := jA base) (H0 := s.heap) (va_runV (As := [.int a1]) (rest := []) ⟨hx, hb, hml, hown, hts⟩ (uX13_parts l dC dI ca base B hB hAp hB15 hB150 hB151 hB152 hB153 hB154 hB165 G0 H_1 r0 a1 zs zn za zb zc zy C) (cwV 1 hts (jgV (jWr_65 _ (List.mem_of_getElem? (i := 15) rfl)) (jWr_65 _ (List.mem_of_getElem? (i := 16) rfl)) (jWr_65 _ (List.mem_of_getElem? (i := 17) rfl)) (jWr_12 _ (List.mem_of_getElem? (i := 12) rfl)) (jWr_65 _ (List.mem_of_getElem? (i := 18) rfl))) rfl rfl rfl (by decide +kernel) ⟨by rw [← hR]; show (0) + 1 ≤ d + 90; omega, by rw [← hR]; show 8 + (3 + 11) + (0) ≤ 60 * d + 6000; omega⟩) ⟨fun a U g mk q => by obtain ⟨q0, q1, q2, qK, q10, q11, q12, q13, q14, q15, q16, q17, q18, q19⟩ := q; exact ⟨q0, q1, q2, jG.calling g mk a qK, q10, q11, q12, q13, q14, q15, q16, q17, q18, q19⟩, hh_1.recv (C := RX13) (T := TX13) (N := 50) hB15 rfl (by decide) hg_r0 hK, fun U hU hW => ⟨rfl, hU, hh_1.2.1, hG.step hW hU hh_1.1, hg_r0, hg_zs, hg_zn, hg_za, hg_zb, hg_zc, hg_zy, (hh_1.2.2.1.sub (L1 := [(r0, 15, 0, .ref zs), (r0, 15, 1, .ref zn), (r0, 15, 2, .ref za), (r0, 15, 3, .ref zb), (r0, 15, 4, .ref zc), (r0, 15, 14, .ref zy)]) [2, 3, 4, 5, 6, 7] rfl), (hh_1.2.2.2.2.2.2.2.1.sub (L1 := [(zs, 150, 120000, ca 1, C.s), (zn, 151, 120000, ca 1, C.n), (za, 152, 120000, ca 1, C.a), (zb, 153, 120000, ca 1, C.b), (zc, 154, 120000, ca 1, C.c), (zy, 165, 16, ca 1, C.y)]) [0, 1, 2, 3, 4, 5] rfl), ⟨(by first | omega | rfl | assumption | exact hp0.sym (by omega)), (by first | omega | rfl | assumption | exact hp0.sym (by omega)), (by first | assumption | exact hp0.sym (by omega) | omega)⟩⟩⟩ rfl rfl hl.1 rfl (lv_room (Nat.le_of_ble_eq_true rfl)) dX13_replaced_13 ⟨Nat.zero_le _, Nat.zero_le _⟩) hh_1.1 (fun q _ h => h) (fun q h => h) (fun r_5 u_4 t_4 H_4 locs_4 ht_4 hvm_4 hr_5 hb_4 hz_4 hk_4 hS_4 => ?_)
    rw [ht_4] at hb_4
    obtain ⟨hb_41, hb_42, hb_43, hb_44, hb_45⟩ := hb_4
    have hh_4 : jSt (dC, dI) B base G0 G0 EX13_replaced s.heap 0 0 [(r0, 15, 5, .int pn), (r0, 15, 11, .int py), (r0, 15, 0, .ref zs), (r0, 15, 1, .ref zn), (r0, 15, 2, .ref za), (r0, 15, 3, .ref zb), (r0, 15, 4, .ref zc), (r0, 15, 14, .ref zy)] [(zs, 150, 120000, ca 1, C.s), (zn, 151, 120000, ca 1, C.n), (za, 152, 120000, ca 1, C.a), (zb, 153, 120000, ca 1, C.b), (zc, 154, 120000, ca 1, C.c), (zy, 165, 16, ca 1, C.y)] [] H_4 locs_4 := ((hh_1.call hb_41 hb_42 hb_43 hb_44 hS_4 rfl (L1 := [(r0, 15, 5, .int pn), (r0, 15, 11, .int py), (r0, 15, 0, .ref zs), (r0, 15, 1, .ref zn), (r0, 15, 2, .ref za), (r0, 15, 3, .ref zb), (r0, 15, 4, .ref zc), (r0, 15, 14, .ref zy)]) [0, 1, 2, 3, 4, 5, 6, 7] rfl rfl (M1 := [(zs, 150, 120000, ca 1, C.s), (zn, 151, 120000, ca 1, C.n), (za, 152, 120000, ca 1, C.a), (zb, 153, 120000, ca 1, C.b), (zc, 154, 120000, ca 1, C.c), (zy, 165, 16, ca 1, C.y)]) [0, 1, 2, 3, 4, 5] rfl rfl (I1 := []) [] rfl rfl).more hb_45)
    clear hh_1 ht_4 hvm_4 hz_4 hk_4 hS_4 hb_41 hb_42 hb_43 hb_44 hb_45
    obtain ⟨hr_5_0, hr_5_1, hr_5_2⟩ := hr_5
    refine lv_istore (lv' := [(4, .int r_5), (0, .ref r0), (1, .int a1), (2, .int a2), (3, .int a3)]) hx hb dX13_replaced_16 hl (by decide) rfl (fun ls hl => ?_)
    refine lv_iload hx hb dX13_replaced_18 (lv_at hl 0 rfl) ?_
    refine lv_if_ne (tgt := 25) hx hb dX13_replaced_20 (by decide) (fun c_6 => ?_) (fun c_6 => ?_)
    · skip
      have c_6' : r_5.toInt ≠ 0 := jb_ne (rfl) ((by decide)) c_6
      have y0 := jSzK_a C a1.toInt (jPts C a1.toInt) (by omega) (by omega)
      have hn0 := jsz_nn C (jSo C.a a1.toInt)
      refine lv_aload_n hx hb dX13_replaced_25 rfl (lv_at hl 1 rfl) ?_
      refine lv_aload_n hx hb dX13_replaced_26 rfl (lv_at hl 1 rfl) ?_
      refine j7_read hx hb hown hK (C := RX13) (T := TX13) (N := 50) rfl hly_15_2 hlk_19 (hh_4.at 4 rfl) dX13_replaced_27 ?_
      refine lv_iload_n hx hb dX13_replaced_30 rfl (lv_at hl 2 rfl) ?_
      refine j7_ialdM hx hb hK hh_4 hB152 1 rfl (by decide) hg_za (x := a1.toInt) (rfl) (by omega) (j := 2) rfl dX13_replaced_31 (fun z_7 ez_7 (hz_7 : True) => ?_)
      have hqz_7 : z_7.toInt = jSo C.a (a1.toInt) := by unfold jSo; rw [ez_7]
      refine lv_iload_n hx hb dX13_replaced_32 rfl (lv_at hl 3 rfl) ?_
      refine lv_iload_n hx hb dX13_replaced_33 rfl (lv_at hl 4 rfl) ?_
      refine va_calli (A0 := jA base) (H0 := s.heap) (va_runV (As := [.int z_7, .int a2, .int a3]) (rest := []) ⟨hx, hb, hml, hown, hts⟩ (ih (d - 1) (by omega) G0 H_4 r0 z_7 a2 a3 pn py zs zn za zb zc zy (gb + jQf C a1.toInt) C) (cwV 3 hts (jgV (jWr_69 _ (List.mem_of_getElem? (i := 7) rfl)) (jWr_69 _ (List.mem_of_getElem? (i := 8) rfl)) (jWr_69 _ (List.mem_of_getElem? (i := 9) rfl)) (jWr_12 _ (List.mem_of_getElem? (i := 12) rfl)) (jWr_69 _ (List.mem_of_getElem? (i := 10) rfl))) rfl rfl rfl (by decide +kernel) ⟨by rw [← hR]; show (d - 1 + 90) + 1 ≤ d + 90; omega, by rw [← hR]; show 8 + (7 + 11) + (60 * (d - 1) + 6000) ≤ 60 * d + 6000; omega⟩) ⟨fun a U g mk q => by obtain ⟨q0, q1, q2, qK, q10, q11, q12, q13, q14, q15, q16, q17, q18, q19⟩ := q; exact ⟨q0, q1, q2, jG.calling g mk a qK, q10, q11, q12, q13, q14, q15, q16, q17, q18, q19⟩, hh_4.recv (C := RX13) (T := TX13) (N := 50) hB15 rfl (by decide) hg_r0 hK, fun U hU hW => ⟨rfl, hU, hh_4.2.1, hG.step hW hU hh_4.1, hg_r0, hg_zs, hg_zn, hg_za, hg_zb, hg_zc, hg_zy, (hh_4.2.2.1.sub (L1 := [(r0, 15, 5, .int pn), (r0, 15, 11, .int py), (r0, 15, 0, .ref zs), (r0, 15, 1, .ref zn), (r0, 15, 2, .ref za), (r0, 15, 3, .ref zb), (r0, 15, 4, .ref zc), (r0, 15, 14, .ref zy)]) [0, 1, 2, 3, 4, 5, 6, 7] rfl), (hh_4.2.2.2.2.2.2.2.1.sub (L1 := [(zs, 150, 120000, ca 1, C.s), (zn, 151, 120000, ca 1, C.n), (za, 152, 120000, ca 1, C.a), (zb, 153, 120000, ca 1, C.b), (zc, 154, 120000, ca 1, C.c), (zy, 165, 16, ca 1, C.y)]) [0, 1, 2, 3, 4, 5] rfl), ⟨(by first | assumption | (rw [hqz_7]; exact hp0.part (k := 0) (by omega) (by omega)) | (rw [hqz_7]; omega) | omega), (by first | assumption | (rw [hqz_7]; exact hp0.part (k := 0) (by omega) (by omega)) | (rw [hqz_7]; omega) | omega), (by first | assumption | (rw [hqz_7]; exact hp0.part (k := 0) (by omega) (by omega)) | (rw [hqz_7]; omega) | omega), (by first | omega | rfl | assumption | (rw [hqz_7]; exact hp0.part (k := 0) (by omega) (by omega)) | (rw [hqz_7]; omega)), (by first | omega | rfl | assumption | (rw [hqz_7]; exact hp0.part (k := 0) (by omega) (by omega)) | (rw [hqz_7]; omega)), (by first | omega | rfl | assumption | (rw [hqz_7]; exact hp0.part (k := 0) (by omega) (by omega)) | (rw [hqz_7]; omega)), (by first | omega | rfl | assumption | (rw [hqz_7]; exact hp0.part (k := 0) (by omega) (by omega)) | (rw [hqz_7]; omega)), (by first | omega | rfl | assumption | (rw [hqz_7]; exact hp0.part (k := 0) (by omega) (by omega)) | (rw [hqz_7]; omega)), (by first | omega | rfl | assumption | (rw [hqz_7]; exact hp0.part (k := 0) (by omega) (by omega)) | (rw [hqz_7]; omega))⟩⟩⟩ rfl rfl hl.1 rfl (lv_room (Nat.le_of_ble_eq_true rfl)) dX13_replaced_34 ⟨Nat.zero_le _, Nat.zero_le _⟩) hh_4.1 (fun q _ h => h) (fun q h => h) (fun r_9 u_8 t_8 H_8 locs_8 ht_8 hvm_8 hr_9 hb_8 hz_8 hk_8 hS_8 => ?_)
      obtain ⟨qn_8, D_8⟩ := u_8
      rw [ht_8] at hb_8
      obtain ⟨⟨hb_81, hb_82, hb_83, hb_84, hb_85⟩, hb_86⟩ := hb_8
      have hh_8 : jSt (dC, dI) B base G0 G0 EX13_replaced s.heap 0 0 [(r0, 15, 5, .int qn_8), (r0, 15, 11, .int py), (r0, 15, 0, .ref zs), (r0, 15, 1, .ref zn), (r0, 15, 2, .ref za), (r0, 15, 3, .ref zb), (r0, 15, 4, .ref zc), (r0, 15, 14, .ref zy)] [(zs, 150, 120000, ca 1, D_8.s), (zn, 151, 120000, ca 1, D_8.n), (za, 152, 120000, ca 1, D_8.a), (zb, 153, 120000, ca 1, D_8.b), (zc, 154, 120000, ca 1, D_8.c), (zy, 165, 16, ca 1, D_8.y), (zy, 165, 16, ca 1, C.y)] [] H_8 locs_8 := ((hh_4.call hb_81 hb_82 hb_83 hb_84 hS_8 rfl (L1 := [(r0, 15, 11, .int py), (r0, 15, 0, .ref zs), (r0, 15, 1, .ref zn), (r0, 15, 2, .ref za), (r0, 15, 3, .ref zb), (r0, 15, 4, .ref zc), (r0, 15, 14, .ref zy)]) [1, 2, 3, 4, 5, 6, 7] rfl rfl (M1 := [(zy, 165, 16, ca 1, C.y)]) [5] rfl rfl (I1 := []) [] rfl rfl).more hb_85).moreM hb_86
      clear hh_4 ht_8 hvm_8 hz_8 hk_8 hS_8 hb_81 hb_82 hb_83 hb_84 hb_85
      clear hb_86
      try simp only at hr_9
      obtain ⟨hr_9_0, hr_9_1, hr_9_2, hr_9_3, hr_9_4⟩ := hr_9
      rw [hqz_7] at hr_9_1 hr_9_4
      have hso1 := (hr_9_2).so g1 g2
      refine lv_istore (lv' := [(5, .int r_9), (4, .int r_5), (0, .ref r0), (1, .int a1), (2, .int a2), (3, .int a3)]) hx hb dX13_replaced_37 hl (by decide) rfl (fun ls hl => ?_)
      refine lv_iload hx hb dX13_replaced_39 (lv_at hl 1 rfl) ?_
      refine lv_iconst (v := 1) hx hb dX13_replaced_41 (by decide) ?_
      refine lv_icmp_le (tgt := 60) hx hb dX13_replaced_42 (by decide) (fun c_10 => ?_) (fun c_10 => ?_)
      · skip
        have c_10' : r_5.toInt ≤ 1 := jb_le (rfl) ((by decide)) c_10
        refine lv_iconst (v := 0) hx hb dX13_replaced_60 (by decide) ?_
        refine lv_istore (lv' := [(6, .int 0), (5, .int r_9), (4, .int r_5), (0, .ref r0), (1, .int a1), (2, .int a2), (3, .int a3)]) hx hb dX13_replaced_61 hl (by decide) rfl (fun ls hl => ?_)
        refine lv_aload_n hx hb dX13_replaced_63 rfl (lv_at hl 3 rfl) ?_
        refine lv_aload_n hx hb dX13_replaced_64 rfl (lv_at hl 3 rfl) ?_
        refine j7_read hx hb hown hK (C := RX13) (T := TX13) (N := 50) rfl hly_15_0 hlk_12 (hh_8.at 2 rfl) dX13_replaced_65 ?_
        refine lv_iload_n hx hb dX13_replaced_68 rfl (lv_at hl 4 rfl) ?_
        refine j7_ialdM hx hb hK hh_8 hB150 1 rfl (by decide) hg_zs (x := a1.toInt) (rfl) (by omega) (j := 0) rfl dX13_replaced_69 (fun z_11 ez_11 (hz_11 : True) => ?_)
        have hqz_11 : z_11.toInt = jSo D_8.s (a1.toInt) := by unfold jSo; rw [ez_11]
        refine lv_aload_n hx hb dX13_replaced_70 rfl (lv_at hl 3 rfl) ?_
        refine j7_read hx hb hown hK (C := RX13) (T := TX13) (N := 50) rfl hly_15_1 hlk_16 (hh_8.at 3 rfl) dX13_replaced_71 ?_
        refine lv_iload_n hx hb dX13_replaced_74 rfl (lv_at hl 4 rfl) ?_
        refine j7_ialdM hx hb hK hh_8 hB151 1 rfl (by decide) hg_zn (x := a1.toInt) (rfl) (by omega) (j := 1) rfl dX13_replaced_75 (fun z_12 ez_12 (hz_12 : True) => ?_)
        have hqz_12 : z_12.toInt = jSo D_8.n (a1.toInt) := by unfold jSo; rw [ez_12]
        refine lv_iload hx hb dX13_replaced_76 (lv_at hl 1 rfl) ?_
        refine lv_iload hx hb dX13_replaced_78 (lv_at hl 0 rfl) ?_
        refine lv_iload hx hb dX13_replaced_80 (lv_at hl 2 rfl) ?_
        refine lv_iconst (v := 2) hx hb dX13_replaced_82 (by decide) ?_
        refine lv_icmp_le (tgt := 101) hx hb dX13_replaced_83 (by decide) (fun c_13 => ?_) (fun c_13 => ?_)
        · skip
          have c_13' : r_5.toInt ≤ 2 := jb_le (rfl) ((by decide)) c_13
          refine lv_iconst (v := 0) hx hb dX13_replaced_101 (by decide) ?_
          refine va_calli (A0 := jA base) (H0 := s.heap) (va_runV (As := [.int z_11, .int z_12, .int r_9, .int 0, .int 0]) (rest := []) ⟨hx, hb, hml, hown, hts⟩ (uX13_nodeK l dC dI ca base B hB hAp hB15 hB150 hB151 hB152 hB153 hB154 hB165 G0 H_8 r0 z_11 z_12 r_9 0 0 qn_8 zs zn za zb zc zy D_8) (cwV 5 hts (jgV (jWr_62 _ (List.mem_of_getElem? (i := 9) rfl)) (jWr_62 _ (List.mem_of_getElem? (i := 10) rfl)) (jWr_62 _ (List.mem_of_getElem? (i := 11) rfl)) (jWr_12 _ (List.mem_of_getElem? (i := 12) rfl)) (jWr_62 _ (List.mem_of_getElem? (i := 12) rfl))) rfl rfl rfl (by decide +kernel) ⟨by rw [← hR]; show (0) + 1 ≤ d + 90; omega, by rw [← hR]; show 8 + (6 + 11) + (0) ≤ 60 * d + 6000; omega⟩) ⟨fun a U g mk q => by obtain ⟨q0, q1, q2, qK, q10, q11, q12, q13, q14, q15, q16, q17, q18, q19⟩ := q; exact ⟨q0, q1, q2, jG.calling g mk a qK, q10, q11, q12, q13, q14, q15, q16, q17, q18, q19⟩, hh_8.recv (C := RX13) (T := TX13) (N := 50) hB15 rfl (by decide) hg_r0 hK, fun U hU hW => ⟨rfl, hU, hh_8.2.1, hG.step hW hU hh_8.1, hg_r0, hg_zs, hg_zn, hg_za, hg_zb, hg_zc, hg_zy, (hh_8.2.2.1.sub (L1 := [(r0, 15, 5, .int qn_8), (r0, 15, 0, .ref zs), (r0, 15, 1, .ref zn), (r0, 15, 2, .ref za), (r0, 15, 3, .ref zb), (r0, 15, 4, .ref zc), (r0, 15, 14, .ref zy)]) [0, 2, 3, 4, 5, 6, 7] rfl), (hh_8.2.2.2.2.2.2.2.1.sub (L1 := [(zs, 150, 120000, ca 1, D_8.s), (zn, 151, 120000, ca 1, D_8.n), (za, 152, 120000, ca 1, D_8.a), (zb, 153, 120000, ca 1, D_8.b), (zc, 154, 120000, ca 1, D_8.c), (zy, 165, 16, ca 1, D_8.y)]) [0, 1, 2, 3, 4, 5] rfl), by first | omega | (refine ⟨?_, ?_⟩ <;> (first | omega | rfl | assumption | decide | exact Or.inl rfl | exact Or.inr rfl | (simp only; omega)))⟩⟩ rfl rfl hl.1 rfl (lv_room (Nat.le_of_ble_eq_true rfl)) dX13_replaced_102 ⟨Nat.zero_le _, Nat.zero_le _⟩) hh_8.1 (fun q _ h => h) (fun q h => h) (fun r_15 u_14 t_14 H_14 locs_14 ht_14 hvm_14 hr_15 hb_14 hz_14 hk_14 hS_14 => ?_)
          obtain ⟨qn_14, D_14⟩ := u_14
          rw [ht_14] at hb_14
          obtain ⟨⟨hb_141, hb_142, hb_143, hb_144, hb_145⟩, hb_146⟩ := hb_14
          have hh_14 : jSt (dC, dI) B base G0 G0 EX13_replaced s.heap 0 0 [(r0, 15, 5, .int qn_14), (r0, 15, 11, .int py), (r0, 15, 0, .ref zs), (r0, 15, 1, .ref zn), (r0, 15, 2, .ref za), (r0, 15, 3, .ref zb), (r0, 15, 4, .ref zc), (r0, 15, 14, .ref zy)] [(zs, 150, 120000, ca 1, D_14.s), (zn, 151, 120000, ca 1, D_14.n), (za, 152, 120000, ca 1, D_14.a), (zb, 153, 120000, ca 1, D_14.b), (zc, 154, 120000, ca 1, D_14.c), (zy, 165, 16, ca 1, D_14.y), (zy, 165, 16, ca 1, D_8.y), (zy, 165, 16, ca 1, C.y)] [] H_14 locs_14 := ((hh_8.call hb_141 hb_142 hb_143 hb_144 hS_14 rfl (L1 := [(r0, 15, 11, .int py), (r0, 15, 0, .ref zs), (r0, 15, 1, .ref zn), (r0, 15, 2, .ref za), (r0, 15, 3, .ref zb), (r0, 15, 4, .ref zc), (r0, 15, 14, .ref zy)]) [1, 2, 3, 4, 5, 6, 7] rfl rfl (M1 := [(zy, 165, 16, ca 1, D_8.y), (zy, 165, 16, ca 1, C.y)]) [5, 6] rfl rfl (I1 := []) [] rfl rfl).more hb_145).moreM hb_146
          clear hh_8 ht_14 hvm_14 hz_14 hk_14 hS_14 hb_141 hb_142 hb_143 hb_144 hb_145
          clear hb_146
          try simp only at hr_15
          obtain ⟨hr_15_0, hr_15_1, hr_15_2⟩ := hr_15
          first | rw [hqz_11, hqz_12, hso2.1, hso2.2.1] at hr_15_2 | rw [hqz_11, hqz_12, hso1.1, hso1.2.1] at hr_15_2
          rw [hQ]
          exact W.iret (v := r_15) hx hb hr (fun t ht hW => ⟨⟨r_15, (qn_14, D_14), rfl, by
    try dsimp only
    have h00 : jPts C a1.toInt = 1 := by omega
    have key := jRe4 (v := gb) hp0 hr_9_2 hr_9_0 hr_15_2 (fun q => (hp0.bnd q).2.1) (by omega) (fun _ => hr_9_3) (fun q => absurd q (by omega)) (fun q => absurd q (by omega))
    have ys := (jSzK_y C a1.toInt (jPts C a1.toInt)).2.1 h00
    have yc := ((jCd_y (t := a2.toInt) (u := a3.toInt) htr (by omega)).2 (by omega)).2.1 h00
    refine ⟨by omega, by omega, key.1, ?_, ?_⟩
    · rw [hr_15_0, hr_15_1]; exact key.2.1.mono (by omega) (Int.le_refl _)
    · rw [hr_15_0, key.2.2.1 h00]; omega, ⟨hh_14.rt (M1 := [(r0, 15, 5, .int qn_14)]) [0] rfl ht, by rw [ht]; exact hh_14.2.2.2.2.2.2.2.1.sub [0, 1, 2, 3, 4, 5] rfl⟩⟩, by rw [ht]; try exact hh_14.1.1, fun q h9 hq => by rw [ht]; try exact hh_14.1.2.1 q h9 hq⟩) hh_14.1.2.2 dX13_replaced_105
        · skip
          have c_13' : r_5.toInt > 2 := jb_le_n (rfl) ((by decide)) c_13
          exact (by omega : False).elim
      · skip
        have c_10' : r_5.toInt > 1 := jb_le_n (rfl) ((by decide)) c_10
        have y1 := jSzK_b C a1.toInt (jPts C a1.toInt) (by omega) (by omega)
        have hn1 := jsz_nn C (jSo C.b a1.toInt)
        have hu1 := hp1.ag (hr_9_2) (hr_9_0)
        have hv1 := hp2.ag (hr_9_2) (hr_9_0)
        have hf1 : jFm D_8 qn_8.toInt py.toInt (d - 1) (gb + jQf C a1.toInt) (jSo C.b a1.toInt) := (hp0.part (k := 1) (by omega) (by omega)).ag (hr_9_2) (hr_9_0)
        have hz1 : jsz D_8 (jSo C.b a1.toInt) = jsz C (jSo C.b a1.toInt) := jsz_ag (hr_9_2) (hp0.part (k := 1) (by omega) (by omega))
        have hc1 : jCd D_8 a2.toInt a3.toInt (jSo C.b a1.toInt) = jCd C a2.toInt a3.toInt (jSo C.b a1.toInt) := jCd_ag (hr_9_2) (hp0.part (k := 1) (by omega) (by omega)) hp1 hp2
        refine lv_aload_n hx hb dX13_replaced_45 rfl (lv_at hl 2 rfl) ?_
        refine lv_aload_n hx hb dX13_replaced_46 rfl (lv_at hl 2 rfl) ?_
        refine j7_read hx hb hown hK (C := RX13) (T := TX13) (N := 50) rfl hly_15_3 hlk_22 (hh_8.at 5 rfl) dX13_replaced_47 ?_
        refine lv_iload_n hx hb dX13_replaced_50 rfl (lv_at hl 3 rfl) ?_
        refine j7_ialdM hx hb hK hh_8 hB153 1 rfl (by decide) hg_zb (x := a1.toInt) (rfl) (by omega) (j := 3) rfl dX13_replaced_51 (fun z_16 ez_16 (hz_16 : True) => ?_)
        have hqz_16 : z_16.toInt = jSo D_8.b (a1.toInt) := by unfold jSo; rw [ez_16]
        refine lv_iload_n hx hb dX13_replaced_52 rfl (lv_at hl 4 rfl) ?_
        refine lv_iload_n hx hb dX13_replaced_53 rfl (lv_at hl 5 rfl) ?_
        refine va_calli (A0 := jA base) (H0 := s.heap) (va_runV (As := [.int z_16, .int a2, .int a3]) (rest := []) ⟨hx, hb, hml, hown, hts⟩ (ih (d - 1) (by omega) G0 H_8 r0 z_16 a2 a3 qn_8 py zs zn za zb zc zy (gb + jQf C a1.toInt) D_8) (cwV 3 hts (jgV (jWr_69 _ (List.mem_of_getElem? (i := 7) rfl)) (jWr_69 _ (List.mem_of_getElem? (i := 8) rfl)) (jWr_69 _ (List.mem_of_getElem? (i := 9) rfl)) (jWr_12 _ (List.mem_of_getElem? (i := 12) rfl)) (jWr_69 _ (List.mem_of_getElem? (i := 10) rfl))) rfl rfl rfl (by decide +kernel) ⟨by rw [← hR]; show (d - 1 + 90) + 1 ≤ d + 90; omega, by rw [← hR]; show 8 + (7 + 11) + (60 * (d - 1) + 6000) ≤ 60 * d + 6000; omega⟩) ⟨fun a U g mk q => by obtain ⟨q0, q1, q2, qK, q10, q11, q12, q13, q14, q15, q16, q17, q18, q19⟩ := q; exact ⟨q0, q1, q2, jG.calling g mk a qK, q10, q11, q12, q13, q14, q15, q16, q17, q18, q19⟩, hh_8.recv (C := RX13) (T := TX13) (N := 50) hB15 rfl (by decide) hg_r0 hK, fun U hU hW => ⟨rfl, hU, hh_8.2.1, hG.step hW hU hh_8.1, hg_r0, hg_zs, hg_zn, hg_za, hg_zb, hg_zc, hg_zy, (hh_8.2.2.1.sub (L1 := [(r0, 15, 5, .int qn_8), (r0, 15, 11, .int py), (r0, 15, 0, .ref zs), (r0, 15, 1, .ref zn), (r0, 15, 2, .ref za), (r0, 15, 3, .ref zb), (r0, 15, 4, .ref zc), (r0, 15, 14, .ref zy)]) [0, 1, 2, 3, 4, 5, 6, 7] rfl), (hh_8.2.2.2.2.2.2.2.1.sub (L1 := [(zs, 150, 120000, ca 1, D_8.s), (zn, 151, 120000, ca 1, D_8.n), (za, 152, 120000, ca 1, D_8.a), (zb, 153, 120000, ca 1, D_8.b), (zc, 154, 120000, ca 1, D_8.c), (zy, 165, 16, ca 1, D_8.y)]) [0, 1, 2, 3, 4, 5] rfl), ⟨(by first | assumption | (rw [hqz_16, hso1.2.2.2.1]; exact hf1) | (rw [hqz_16, hso1.2.2.2.1, hz1]; omega) | omega), (by first | assumption | (rw [hqz_16, hso1.2.2.2.1]; exact hf1) | (rw [hqz_16, hso1.2.2.2.1, hz1]; omega) | omega), (by first | assumption | (rw [hqz_16, hso1.2.2.2.1]; exact hf1) | (rw [hqz_16, hso1.2.2.2.1, hz1]; omega) | omega), (by first | omega | rfl | assumption | (rw [hqz_16, hso1.2.2.2.1]; exact hf1) | (rw [hqz_16, hso1.2.2.2.1, hz1]; omega)), (by first | omega | rfl | assumption | (rw [hqz_16, hso1.2.2.2.1]; exact hf1) | (rw [hqz_16, hso1.2.2.2.1, hz1]; omega)), (by first | omega | rfl | assumption | (rw [hqz_16, hso1.2.2.2.1]; exact hf1) | (rw [hqz_16, hso1.2.2.2.1, hz1]; omega)), (by first | omega | rfl | assumption | (rw [hqz_16, hso1.2.2.2.1]; exact hf1) | (rw [hqz_16, hso1.2.2.2.1, hz1]; omega)), (by first | omega | rfl | assumption | (rw [hqz_16, hso1.2.2.2.1]; exact hf1) | (rw [hqz_16, hso1.2.2.2.1, hz1]; omega)), (by first | omega | rfl | assumption | (rw [hqz_16, hso1.2.2.2.1]; exact hf1) | (rw [hqz_16, hso1.2.2.2.1, hz1]; omega))⟩⟩⟩ rfl rfl hl.1 rfl (lv_room (Nat.le_of_ble_eq_true rfl)) dX13_replaced_54 ⟨Nat.zero_le _, Nat.zero_le _⟩) hh_8.1 (fun q _ h => h) (fun q h => h) (fun r_18 u_17 t_17 H_17 locs_17 ht_17 hvm_17 hr_18 hb_17 hz_17 hk_17 hS_17 => ?_)
        obtain ⟨qn_17, D_17⟩ := u_17
        rw [ht_17] at hb_17
        obtain ⟨⟨hb_171, hb_172, hb_173, hb_174, hb_175⟩, hb_176⟩ := hb_17
        have hh_17 : jSt (dC, dI) B base G0 G0 EX13_replaced s.heap 0 0 [(r0, 15, 5, .int qn_17), (r0, 15, 11, .int py), (r0, 15, 0, .ref zs), (r0, 15, 1, .ref zn), (r0, 15, 2, .ref za), (r0, 15, 3, .ref zb), (r0, 15, 4, .ref zc), (r0, 15, 14, .ref zy)] [(zs, 150, 120000, ca 1, D_17.s), (zn, 151, 120000, ca 1, D_17.n), (za, 152, 120000, ca 1, D_17.a), (zb, 153, 120000, ca 1, D_17.b), (zc, 154, 120000, ca 1, D_17.c), (zy, 165, 16, ca 1, D_17.y), (zy, 165, 16, ca 1, D_8.y), (zy, 165, 16, ca 1, C.y)] [] H_17 locs_17 := ((hh_8.call hb_171 hb_172 hb_173 hb_174 hS_17 rfl (L1 := [(r0, 15, 11, .int py), (r0, 15, 0, .ref zs), (r0, 15, 1, .ref zn), (r0, 15, 2, .ref za), (r0, 15, 3, .ref zb), (r0, 15, 4, .ref zc), (r0, 15, 14, .ref zy)]) [1, 2, 3, 4, 5, 6, 7] rfl rfl (M1 := [(zy, 165, 16, ca 1, D_8.y), (zy, 165, 16, ca 1, C.y)]) [5, 6] rfl rfl (I1 := []) [] rfl rfl).more hb_175).moreM hb_176
        clear hh_8 ht_17 hvm_17 hz_17 hk_17 hS_17 hb_171 hb_172 hb_173 hb_174 hb_175
        clear hb_176
        try simp only at hr_18
        obtain ⟨hr_18_0, hr_18_1, hr_18_2, hr_18_3, hr_18_4⟩ := hr_18
        rw [hqz_16, hso1.2.2.2.1, hz1] at hr_18_1 hr_18_4
        rw [hc1] at hr_18_4
        have hso2 := (hr_9_2.tr hr_18_2 hr_9_0).so g1 g2
        refine lv_goto (tgt := 61) hx hb dX13_replaced_57 (by decide) ?_
        refine lv_istore (lv' := [(6, .int r_18), (5, .int r_9), (4, .int r_5), (0, .ref r0), (1, .int a1), (2, .int a2), (3, .int a3)]) hx hb dX13_replaced_61 hl (by decide) rfl (fun ls hl => ?_)
        refine lv_aload_n hx hb dX13_replaced_63 rfl (lv_at hl 3 rfl) ?_
        refine lv_aload_n hx hb dX13_replaced_64 rfl (lv_at hl 3 rfl) ?_
        refine j7_read hx hb hown hK (C := RX13) (T := TX13) (N := 50) rfl hly_15_0 hlk_12 (hh_17.at 2 rfl) dX13_replaced_65 ?_
        refine lv_iload_n hx hb dX13_replaced_68 rfl (lv_at hl 4 rfl) ?_
        refine j7_ialdM hx hb hK hh_17 hB150 1 rfl (by decide) hg_zs (x := a1.toInt) (rfl) (by omega) (j := 0) rfl dX13_replaced_69 (fun z_19 ez_19 (hz_19 : True) => ?_)
        have hqz_19 : z_19.toInt = jSo D_17.s (a1.toInt) := by unfold jSo; rw [ez_19]
        refine lv_aload_n hx hb dX13_replaced_70 rfl (lv_at hl 3 rfl) ?_
        refine j7_read hx hb hown hK (C := RX13) (T := TX13) (N := 50) rfl hly_15_1 hlk_16 (hh_17.at 3 rfl) dX13_replaced_71 ?_
        refine lv_iload_n hx hb dX13_replaced_74 rfl (lv_at hl 4 rfl) ?_
        refine j7_ialdM hx hb hK hh_17 hB151 1 rfl (by decide) hg_zn (x := a1.toInt) (rfl) (by omega) (j := 1) rfl dX13_replaced_75 (fun z_20 ez_20 (hz_20 : True) => ?_)
        have hqz_20 : z_20.toInt = jSo D_17.n (a1.toInt) := by unfold jSo; rw [ez_20]
        refine lv_iload hx hb dX13_replaced_76 (lv_at hl 1 rfl) ?_
        refine lv_iload hx hb dX13_replaced_78 (lv_at hl 0 rfl) ?_
        refine lv_iload hx hb dX13_replaced_80 (lv_at hl 2 rfl) ?_
        refine lv_iconst (v := 2) hx hb dX13_replaced_82 (by decide) ?_
        refine lv_icmp_le (tgt := 101) hx hb dX13_replaced_83 (by decide) (fun c_21 => ?_) (fun c_21 => ?_)
        · skip
          have c_21' : r_5.toInt ≤ 2 := jb_le (rfl) ((by decide)) c_21
          refine lv_iconst (v := 0) hx hb dX13_replaced_101 (by decide) ?_
          refine va_calli (A0 := jA base) (H0 := s.heap) (va_runV (As := [.int z_19, .int z_20, .int r_9, .int r_18, .int 0]) (rest := []) ⟨hx, hb, hml, hown, hts⟩ (uX13_nodeK l dC dI ca base B hB hAp hB15 hB150 hB151 hB152 hB153 hB154 hB165 G0 H_17 r0 z_19 z_20 r_9 r_18 0 qn_17 zs zn za zb zc zy D_17) (cwV 5 hts (jgV (jWr_62 _ (List.mem_of_getElem? (i := 9) rfl)) (jWr_62 _ (List.mem_of_getElem? (i := 10) rfl)) (jWr_62 _ (List.mem_of_getElem? (i := 11) rfl)) (jWr_12 _ (List.mem_of_getElem? (i := 12) rfl)) (jWr_62 _ (List.mem_of_getElem? (i := 12) rfl))) rfl rfl rfl (by decide +kernel) ⟨by rw [← hR]; show (0) + 1 ≤ d + 90; omega, by rw [← hR]; show 8 + (6 + 11) + (0) ≤ 60 * d + 6000; omega⟩) ⟨fun a U g mk q => by obtain ⟨q0, q1, q2, qK, q10, q11, q12, q13, q14, q15, q16, q17, q18, q19⟩ := q; exact ⟨q0, q1, q2, jG.calling g mk a qK, q10, q11, q12, q13, q14, q15, q16, q17, q18, q19⟩, hh_17.recv (C := RX13) (T := TX13) (N := 50) hB15 rfl (by decide) hg_r0 hK, fun U hU hW => ⟨rfl, hU, hh_17.2.1, hG.step hW hU hh_17.1, hg_r0, hg_zs, hg_zn, hg_za, hg_zb, hg_zc, hg_zy, (hh_17.2.2.1.sub (L1 := [(r0, 15, 5, .int qn_17), (r0, 15, 0, .ref zs), (r0, 15, 1, .ref zn), (r0, 15, 2, .ref za), (r0, 15, 3, .ref zb), (r0, 15, 4, .ref zc), (r0, 15, 14, .ref zy)]) [0, 2, 3, 4, 5, 6, 7] rfl), (hh_17.2.2.2.2.2.2.2.1.sub (L1 := [(zs, 150, 120000, ca 1, D_17.s), (zn, 151, 120000, ca 1, D_17.n), (za, 152, 120000, ca 1, D_17.a), (zb, 153, 120000, ca 1, D_17.b), (zc, 154, 120000, ca 1, D_17.c), (zy, 165, 16, ca 1, D_17.y)]) [0, 1, 2, 3, 4, 5] rfl), by first | omega | (refine ⟨?_, ?_⟩ <;> (first | omega | rfl | assumption | decide | exact Or.inl rfl | exact Or.inr rfl | (simp only; omega)))⟩⟩ rfl rfl hl.1 rfl (lv_room (Nat.le_of_ble_eq_true rfl)) dX13_replaced_102 ⟨Nat.zero_le _, Nat.zero_le _⟩) hh_17.1 (fun q _ h => h) (fun q h => h) (fun r_23 u_22 t_22 H_22 locs_22 ht_22 hvm_22 hr_23 hb_22 hz_22 hk_22 hS_22 => ?_)
          obtain ⟨qn_22, D_22⟩ := u_22
          rw [ht_22] at hb_22
          obtain ⟨⟨hb_221, hb_222, hb_223, hb_224, hb_225⟩, hb_226⟩ := hb_22
          have hh_22 : jSt (dC, dI) B base G0 G0 EX13_replaced s.heap 0 0 [(r0, 15, 5, .int qn_22), (r0, 15, 11, .int py), (r0, 15, 0, .ref zs), (r0, 15, 1, .ref zn), (r0, 15, 2, .ref za), (r0, 15, 3, .ref zb), (r0, 15, 4, .ref zc), (r0, 15, 14, .ref zy)] [(zs, 150, 120000, ca 1, D_22.s), (zn, 151, 120000, ca 1, D_22.n), (za, 152, 120000, ca 1, D_22.a), (zb, 153, 120000, ca 1, D_22.b), (zc, 154, 120000, ca 1, D_22.c), (zy, 165, 16, ca 1, D_22.y), (zy, 165, 16, ca 1, D_17.y), (zy, 165, 16, ca 1, D_8.y), (zy, 165, 16, ca 1, C.y)] [] H_22 locs_22 := ((hh_17.call hb_221 hb_222 hb_223 hb_224 hS_22 rfl (L1 := [(r0, 15, 11, .int py), (r0, 15, 0, .ref zs), (r0, 15, 1, .ref zn), (r0, 15, 2, .ref za), (r0, 15, 3, .ref zb), (r0, 15, 4, .ref zc), (r0, 15, 14, .ref zy)]) [1, 2, 3, 4, 5, 6, 7] rfl rfl (M1 := [(zy, 165, 16, ca 1, D_17.y), (zy, 165, 16, ca 1, D_8.y), (zy, 165, 16, ca 1, C.y)]) [5, 6, 7] rfl rfl (I1 := []) [] rfl rfl).more hb_225).moreM hb_226
          clear hh_17 ht_22 hvm_22 hz_22 hk_22 hS_22 hb_221 hb_222 hb_223 hb_224 hb_225
          clear hb_226
          try simp only at hr_23
          obtain ⟨hr_23_0, hr_23_1, hr_23_2⟩ := hr_23
          first | rw [hqz_19, hqz_20, hso2.1, hso2.2.1] at hr_23_2 | rw [hqz_19, hqz_20, hso1.1, hso1.2.1] at hr_23_2
          rw [hQ]
          exact W.iret (v := r_23) hx hb hr (fun t ht hW => ⟨⟨r_23, (qn_22, D_22), rfl, by
    try dsimp only
    have h00 : jPts C a1.toInt = 2 := by omega
    have key := jRe4 (v := gb) hp0 (hr_9_2.tr hr_18_2 hr_9_0) (Int.le_trans hr_9_0 hr_18_0) hr_23_2 (fun q => (hp0.bnd q).2.1) (by omega) (fun _ => hr_9_3.ag hr_18_2 hr_18_0) (fun _ => hr_18_3) (fun q => absurd q (by omega))
    have j1 := jsz_ag hr_18_2 hr_9_3
    have ys := (jSzK_y C a1.toInt (jPts C a1.toInt)).2.2.1 h00
    have yc := ((jCd_y (t := a2.toInt) (u := a3.toInt) htr (by omega)).2 (by omega)).2.2.1 h00
    refine ⟨by omega, by omega, key.1, ?_, ?_⟩
    · rw [hr_23_0, hr_23_1]; exact key.2.1.mono (by omega) (Int.le_refl _)
    · rw [hr_23_0, key.2.2.2.1 h00]; omega, ⟨hh_22.rt (M1 := [(r0, 15, 5, .int qn_22)]) [0] rfl ht, by rw [ht]; exact hh_22.2.2.2.2.2.2.2.1.sub [0, 1, 2, 3, 4, 5] rfl⟩⟩, by rw [ht]; try exact hh_22.1.1, fun q h9 hq => by rw [ht]; try exact hh_22.1.2.1 q h9 hq⟩) hh_22.1.2.2 dX13_replaced_105
        · skip
          have c_21' : r_5.toInt > 2 := jb_le_n (rfl) ((by decide)) c_21
          have y2 := (jSzK_y C a1.toInt (jPts C a1.toInt)).2.2.2 (by omega)
          have hn2 := jsz_nn C (jSo C.c a1.toInt)
          have hu2 := hp1.ag (hr_9_2.tr hr_18_2 hr_9_0) (Int.le_trans hr_9_0 hr_18_0)
          have hv2 := hp2.ag (hr_9_2.tr hr_18_2 hr_9_0) (Int.le_trans hr_9_0 hr_18_0)
          have hf2 : jFm D_17 qn_17.toInt py.toInt (d - 1) (gb + jQf C a1.toInt) (jSo C.c a1.toInt) := (hp0.part (k := 2) (by omega) (by omega)).ag (hr_9_2.tr hr_18_2 hr_9_0) (Int.le_trans hr_9_0 hr_18_0)
          have hz2 : jsz D_17 (jSo C.c a1.toInt) = jsz C (jSo C.c a1.toInt) := jsz_ag (hr_9_2.tr hr_18_2 hr_9_0) (hp0.part (k := 2) (by omega) (by omega))
          have hc2 : jCd D_17 a2.toInt a3.toInt (jSo C.c a1.toInt) = jCd C a2.toInt a3.toInt (jSo C.c a1.toInt) := jCd_ag (hr_9_2.tr hr_18_2 hr_9_0) (hp0.part (k := 2) (by omega) (by omega)) hp1 hp2
          refine lv_aload_n hx hb dX13_replaced_86 rfl (lv_at hl 3 rfl) ?_
          refine lv_aload_n hx hb dX13_replaced_87 rfl (lv_at hl 3 rfl) ?_
          refine j7_read hx hb hown hK (C := RX13) (T := TX13) (N := 50) rfl hly_15_4 hlk_25 (hh_17.at 6 rfl) dX13_replaced_88 ?_
          refine lv_iload_n hx hb dX13_replaced_91 rfl (lv_at hl 4 rfl) ?_
          refine j7_ialdM hx hb hK hh_17 hB154 1 rfl (by decide) hg_zc (x := a1.toInt) (rfl) (by omega) (j := 4) rfl dX13_replaced_92 (fun z_24 ez_24 (hz_24 : True) => ?_)
          have hqz_24 : z_24.toInt = jSo D_17.c (a1.toInt) := by unfold jSo; rw [ez_24]
          refine lv_iload_n hx hb dX13_replaced_93 rfl (lv_at hl 5 rfl) ?_
          refine lv_iload_n hx hb dX13_replaced_94 rfl (lv_at hl 6 rfl) ?_
          refine va_calli (A0 := jA base) (H0 := s.heap) (va_runV (As := [.int z_24, .int a2, .int a3]) (rest := [.int r_18, .int r_9, .int z_20, .int z_19, .ref r0]) ⟨hx, hb, hml, hown, hts⟩ (ih (d - 1) (by omega) G0 H_17 r0 z_24 a2 a3 qn_17 py zs zn za zb zc zy (gb + jQf C a1.toInt) D_17) (cwV 3 hts (jgV (jWr_69 _ (List.mem_of_getElem? (i := 7) rfl)) (jWr_69 _ (List.mem_of_getElem? (i := 8) rfl)) (jWr_69 _ (List.mem_of_getElem? (i := 9) rfl)) (jWr_12 _ (List.mem_of_getElem? (i := 12) rfl)) (jWr_69 _ (List.mem_of_getElem? (i := 10) rfl))) rfl rfl rfl (by decide +kernel) ⟨by rw [← hR]; show (d - 1 + 90) + 1 ≤ d + 90; omega, by rw [← hR]; show 8 + (7 + 11) + (60 * (d - 1) + 6000) ≤ 60 * d + 6000; omega⟩) ⟨fun a U g mk q => by obtain ⟨q0, q1, q2, qK, q10, q11, q12, q13, q14, q15, q16, q17, q18, q19⟩ := q; exact ⟨q0, q1, q2, jG.calling g mk a qK, q10, q11, q12, q13, q14, q15, q16, q17, q18, q19⟩, hh_17.recv (C := RX13) (T := TX13) (N := 50) hB15 rfl (by decide) hg_r0 hK, fun U hU hW => ⟨rfl, hU, hh_17.2.1, hG.step hW hU hh_17.1, hg_r0, hg_zs, hg_zn, hg_za, hg_zb, hg_zc, hg_zy, (hh_17.2.2.1.sub (L1 := [(r0, 15, 5, .int qn_17), (r0, 15, 11, .int py), (r0, 15, 0, .ref zs), (r0, 15, 1, .ref zn), (r0, 15, 2, .ref za), (r0, 15, 3, .ref zb), (r0, 15, 4, .ref zc), (r0, 15, 14, .ref zy)]) [0, 1, 2, 3, 4, 5, 6, 7] rfl), (hh_17.2.2.2.2.2.2.2.1.sub (L1 := [(zs, 150, 120000, ca 1, D_17.s), (zn, 151, 120000, ca 1, D_17.n), (za, 152, 120000, ca 1, D_17.a), (zb, 153, 120000, ca 1, D_17.b), (zc, 154, 120000, ca 1, D_17.c), (zy, 165, 16, ca 1, D_17.y)]) [0, 1, 2, 3, 4, 5] rfl), ⟨(by first | assumption | (rw [hqz_24, hso2.2.2.2.2]; exact hf2) | (rw [hqz_24, hso2.2.2.2.2, hz2]; omega) | omega), (by first | assumption | (rw [hqz_24, hso2.2.2.2.2]; exact hf2) | (rw [hqz_24, hso2.2.2.2.2, hz2]; omega) | omega), (by first | assumption | (rw [hqz_24, hso2.2.2.2.2]; exact hf2) | (rw [hqz_24, hso2.2.2.2.2, hz2]; omega) | omega), (by first | omega | rfl | assumption | (rw [hqz_24, hso2.2.2.2.2]; exact hf2) | (rw [hqz_24, hso2.2.2.2.2, hz2]; omega)), (by first | omega | rfl | assumption | (rw [hqz_24, hso2.2.2.2.2]; exact hf2) | (rw [hqz_24, hso2.2.2.2.2, hz2]; omega)), (by first | omega | rfl | assumption | (rw [hqz_24, hso2.2.2.2.2]; exact hf2) | (rw [hqz_24, hso2.2.2.2.2, hz2]; omega)), (by first | omega | rfl | assumption | (rw [hqz_24, hso2.2.2.2.2]; exact hf2) | (rw [hqz_24, hso2.2.2.2.2, hz2]; omega)), (by first | omega | rfl | assumption | (rw [hqz_24, hso2.2.2.2.2]; exact hf2) | (rw [hqz_24, hso2.2.2.2.2, hz2]; omega)), (by first | omega | rfl | assumption | (rw [hqz_24, hso2.2.2.2.2]; exact hf2) | (rw [hqz_24, hso2.2.2.2.2, hz2]; omega))⟩⟩⟩ rfl rfl hl.1 rfl (lv_room (Nat.le_of_ble_eq_true rfl)) dX13_replaced_95 ⟨Nat.zero_le _, Nat.zero_le _⟩) hh_17.1 (fun q _ h => h) (fun q h => h) (fun r_26 u_25 t_25 H_25 locs_25 ht_25 hvm_25 hr_26 hb_25 hz_25 hk_25 hS_25 => ?_)
          obtain ⟨qn_25, D_25⟩ := u_25
          rw [ht_25] at hb_25
          obtain ⟨⟨hb_251, hb_252, hb_253, hb_254, hb_255⟩, hb_256⟩ := hb_25
          have hh_25 : jSt (dC, dI) B base G0 G0 EX13_replaced s.heap 0 0 [(r0, 15, 5, .int qn_25), (r0, 15, 11, .int py), (r0, 15, 0, .ref zs), (r0, 15, 1, .ref zn), (r0, 15, 2, .ref za), (r0, 15, 3, .ref zb), (r0, 15, 4, .ref zc), (r0, 15, 14, .ref zy)] [(zs, 150, 120000, ca 1, D_25.s), (zn, 151, 120000, ca 1, D_25.n), (za, 152, 120000, ca 1, D_25.a), (zb, 153, 120000, ca 1, D_25.b), (zc, 154, 120000, ca 1, D_25.c), (zy, 165, 16, ca 1, D_25.y), (zy, 165, 16, ca 1, D_17.y), (zy, 165, 16, ca 1, D_8.y), (zy, 165, 16, ca 1, C.y)] [] H_25 locs_25 := ((hh_17.call hb_251 hb_252 hb_253 hb_254 hS_25 rfl (L1 := [(r0, 15, 11, .int py), (r0, 15, 0, .ref zs), (r0, 15, 1, .ref zn), (r0, 15, 2, .ref za), (r0, 15, 3, .ref zb), (r0, 15, 4, .ref zc), (r0, 15, 14, .ref zy)]) [1, 2, 3, 4, 5, 6, 7] rfl rfl (M1 := [(zy, 165, 16, ca 1, D_17.y), (zy, 165, 16, ca 1, D_8.y), (zy, 165, 16, ca 1, C.y)]) [5, 6, 7] rfl rfl (I1 := []) [] rfl rfl).more hb_255).moreM hb_256
          clear hh_17 ht_25 hvm_25 hz_25 hk_25 hS_25 hb_251 hb_252 hb_253 hb_254 hb_255
          clear hb_256
          try simp only at hr_26
          obtain ⟨hr_26_0, hr_26_1, hr_26_2, hr_26_3, hr_26_4⟩ := hr_26
          rw [hqz_24, hso2.2.2.2.2, hz2] at hr_26_1 hr_26_4
          rw [hc2] at hr_26_4
          refine lv_goto (tgt := 102) hx hb dX13_replaced_98 (by decide) ?_
          refine va_calli (A0 := jA base) (H0 := s.heap) (va_runV (As := [.int z_19, .int z_20, .int r_9, .int r_18, .int r_26]) (rest := []) ⟨hx, hb, hml, hown, hts⟩ (uX13_nodeK l dC dI ca base B hB hAp hB15 hB150 hB151 hB152 hB153 hB154 hB165 G0 H_25 r0 z_19 z_20 r_9 r_18 r_26 qn_25 zs zn za zb zc zy D_25) (cwV 5 hts (jgV (jWr_62 _ (List.mem_of_getElem? (i := 9) rfl)) (jWr_62 _ (List.mem_of_getElem? (i := 10) rfl)) (jWr_62 _ (List.mem_of_getElem? (i := 11) rfl)) (jWr_12 _ (List.mem_of_getElem? (i := 12) rfl)) (jWr_62 _ (List.mem_of_getElem? (i := 12) rfl))) rfl rfl rfl (by decide +kernel) ⟨by rw [← hR]; show (0) + 1 ≤ d + 90; omega, by rw [← hR]; show 8 + (6 + 11) + (0) ≤ 60 * d + 6000; omega⟩) ⟨fun a U g mk q => by obtain ⟨q0, q1, q2, qK, q10, q11, q12, q13, q14, q15, q16, q17, q18, q19⟩ := q; exact ⟨q0, q1, q2, jG.calling g mk a qK, q10, q11, q12, q13, q14, q15, q16, q17, q18, q19⟩, hh_25.recv (C := RX13) (T := TX13) (N := 50) hB15 rfl (by decide) hg_r0 hK, fun U hU hW => ⟨rfl, hU, hh_25.2.1, hG.step hW hU hh_25.1, hg_r0, hg_zs, hg_zn, hg_za, hg_zb, hg_zc, hg_zy, (hh_25.2.2.1.sub (L1 := [(r0, 15, 5, .int qn_25), (r0, 15, 0, .ref zs), (r0, 15, 1, .ref zn), (r0, 15, 2, .ref za), (r0, 15, 3, .ref zb), (r0, 15, 4, .ref zc), (r0, 15, 14, .ref zy)]) [0, 2, 3, 4, 5, 6, 7] rfl), (hh_25.2.2.2.2.2.2.2.1.sub (L1 := [(zs, 150, 120000, ca 1, D_25.s), (zn, 151, 120000, ca 1, D_25.n), (za, 152, 120000, ca 1, D_25.a), (zb, 153, 120000, ca 1, D_25.b), (zc, 154, 120000, ca 1, D_25.c), (zy, 165, 16, ca 1, D_25.y)]) [0, 1, 2, 3, 4, 5] rfl), by first | omega | (refine ⟨?_, ?_⟩ <;> (first | omega | rfl | assumption | decide | exact Or.inl rfl | exact Or.inr rfl | (simp only; omega)))⟩⟩ rfl rfl hl.1 rfl (lv_room (Nat.le_of_ble_eq_true rfl)) dX13_replaced_102 ⟨Nat.zero_le _, Nat.zero_le _⟩) hh_25.1 (fun q _ h => h) (fun q h => h) (fun r_28 u_27 t_27 H_27 locs_27 ht_27 hvm_27 hr_28 hb_27 hz_27 hk_27 hS_27 => ?_)
          obtain ⟨qn_27, D_27⟩ := u_27
          rw [ht_27] at hb_27
          obtain ⟨⟨hb_271, hb_272, hb_273, hb_274, hb_275⟩, hb_276⟩ := hb_27
          have hh_27 : jSt (dC, dI) B base G0 G0 EX13_replaced s.heap 0 0 [(r0, 15, 5, .int qn_27), (r0, 15, 11, .int py), (r0, 15, 0, .ref zs), (r0, 15, 1, .ref zn), (r0, 15, 2, .ref za), (r0, 15, 3, .ref zb), (r0, 15, 4, .ref zc), (r0, 15, 14, .ref zy)] [(zs, 150, 120000, ca 1, D_27.s), (zn, 151, 120000, ca 1, D_27.n), (za, 152, 120000, ca 1, D_27.a), (zb, 153, 120000, ca 1, D_27.b), (zc, 154, 120000, ca 1, D_27.c), (zy, 165, 16, ca 1, D_27.y), (zy, 165, 16, ca 1, D_25.y), (zy, 165, 16, ca 1, D_17.y), (zy, 165, 16, ca 1, D_8.y), (zy, 165, 16, ca 1, C.y)] [] H_27 locs_27 := ((hh_25.call hb_271 hb_272 hb_273 hb_274 hS_27 rfl (L1 := [(r0, 15, 11, .int py), (r0, 15, 0, .ref zs), (r0, 15, 1, .ref zn), (r0, 15, 2, .ref za), (r0, 15, 3, .ref zb), (r0, 15, 4, .ref zc), (r0, 15, 14, .ref zy)]) [1, 2, 3, 4, 5, 6, 7] rfl rfl (M1 := [(zy, 165, 16, ca 1, D_25.y), (zy, 165, 16, ca 1, D_17.y), (zy, 165, 16, ca 1, D_8.y), (zy, 165, 16, ca 1, C.y)]) [5, 6, 7, 8] rfl rfl (I1 := []) [] rfl rfl).more hb_275).moreM hb_276
          clear hh_25 ht_27 hvm_27 hz_27 hk_27 hS_27 hb_271 hb_272 hb_273 hb_274 hb_275
          clear hb_276
          try simp only at hr_28
          obtain ⟨hr_28_0, hr_28_1, hr_28_2⟩ := hr_28
          first | rw [hqz_19, hqz_20, hso2.1, hso2.2.1] at hr_28_2 | rw [hqz_19, hqz_20, hso1.1, hso1.2.1] at hr_28_2
          rw [hQ]
          exact W.iret (v := r_28) hx hb hr (fun t ht hW => ⟨⟨r_28, (qn_27, D_27), rfl, by
    try dsimp only
    have h00 : jPts C a1.toInt = 3 := by omega
    have key := jRe4 (v := gb) hp0 ((hr_9_2.tr hr_18_2 hr_9_0).tr hr_26_2 (Int.le_trans hr_9_0 hr_18_0)) (by omega) hr_28_2 (fun q => (hp0.bnd q).2.1) (by omega) (fun _ => (hr_9_3.ag hr_18_2 hr_18_0).ag hr_26_2 hr_26_0) (fun _ => hr_18_3.ag hr_26_2 hr_26_0) (fun _ => hr_26_3)
    have j1 := jsz_ag hr_18_2 hr_9_3
    have j2 := jsz_ag hr_26_2 hr_18_3
    have j3 := jsz_ag hr_26_2 (hr_9_3.ag hr_18_2 hr_18_0)
    have ys := (jSzK_y C a1.toInt (jPts C a1.toInt)).2.2.2 h00
    have yc := ((jCd_y (t := a2.toInt) (u := a3.toInt) htr (by omega)).2 (by omega)).2.2.2 h00
    refine ⟨by omega, by omega, key.1, ?_, ?_⟩
    · rw [hr_28_0, hr_28_1]; exact key.2.1.mono (by omega) (Int.le_refl _)
    · rw [hr_28_0, key.2.2.2.2 h00]; omega, ⟨hh_27.rt (M1 := [(r0, 15, 5, .int qn_27)]) [0] rfl ht, by rw [ht]; exact hh_27.2.2.2.2.2.2.2.1.sub [0, 1, 2, 3, 4, 5] rfl⟩⟩, by rw [ht]; try exact hh_27.1.1, fun q h9 hq => by rw [ht]; try exact hh_27.1.2.1 q h9 hq⟩) hh_27.1.2.2 dX13_replaced_105
    · skip
      have c_6' : r_5.toInt = 0 := jb_ne_n (rfl) ((by decide)) c_6
      refine lv_iload_n hx hb dX13_replaced_23 rfl (lv_at hl 2 rfl) ?_
      rw [hQ]
      exact W.iret (v := a1) hx hb hr (fun t ht hW => ⟨⟨a1, (pn, C), rfl, by
    try dsimp only
    have h00 : jPts C a1.toInt = 0 := by omega
    have z3 := ((jCd_y (t := a2.toInt) (u := a3.toInt) htr (by omega)).2 (by omega)).1 h00
    exact ⟨by omega, by omega, jAgK.rf _ _, hp0.mono (by omega) (Int.le_refl _), by omega⟩, ⟨hh_4.rt (M1 := [(r0, 15, 5, .int pn)]) [0] rfl ht, by rw [ht]; exact hh_4.2.2.2.2.2.2.2.1.sub [0, 1, 2, 3, 4, 5] rfl⟩⟩, by rw [ht]; try exact hh_4.1.1, fun q h9 hq => by rw [ht]; try exact hh_4.1.2.1 q h9 hq⟩) hh_4.1.2.2 dX13_replaced_24
  · skip
    have c_3' : r_2.toInt ≠ 0 := jb_eq_n (rfl) ((by decide)) c_3
    refine lv_iload_n hx hb dX13_replaced_9 rfl (lv_at hl 3 rfl) ?_
    rw [hQ]
    exact W.iret (v := a3) hx hb hr (fun t ht hW => ⟨⟨a3, (pn, C), rfl, by
    try dsimp only
    have h01 : jSm C a1.toInt a2.toInt = 1 := by omega
    have z2 := jSm_sz (by omega : 80 ≤ 4000) (hp0.mono (by omega : d ≤ 80) (Int.le_refl _)) hp1 h01
    have z3 := (jCd_y (t := a2.toInt) (u := a3.toInt) htr (by omega)).1 h01
    exact ⟨by omega, by omega, jAgK.rf _ _, hp2.mono (by omega) (by omega), by omega⟩, ⟨hh_1.rt (M1 := [(r0, 15, 5, .int pn)]) [0] rfl ht, by rw [ht]; exact hh_1.2.2.2.2.2.2.2.1.sub [0, 1, 2, 3, 4, 5] rfl⟩⟩, by rw [ht]; try exact hh_1.1.1, fun q h9 hq => by rw [ht]; try exact hh_1.1.2.1 q h9 hq⟩) hh_1.1.2.2 dX13_replaced_10
theorem aX13_replaced (l : Launch) (dC : Nat → ClassId) (dI : Nat → Nat → Nat) (ca : Nat → ClassId) (base : Nat) (B : jF) (hB : jBok B) (hAp : jAp (dC, dI)) (hB15 : ∀ n G a H, B 15 n G a H ↔ jOb (dC, dI) 15 50 (F15 n G) a H) (hB150 : ∀ n G a H, B 150 n G a H ↔ jAr (dC, dI) (ca 1) (fun j z => True) n a H) (hB151 : ∀ n G a H, B 151 n G a H ↔ jAr (dC, dI) (ca 1) (fun j z => True) n a H) (hB152 : ∀ n G a H, B 152 n G a H ↔ jAr (dC, dI) (ca 1) (fun j z => True) n a H) (hB153 : ∀ n G a H, B 153 n G a H ↔ jAr (dC, dI) (ca 1) (fun j z => True) n a H) (hB154 : ∀ n G a H, B 154 n G a H ↔ jAr (dC, dI) (ca 1) (fun j z => True) n a H) (hB165 : ∀ n G a H, B 165 n G a H ↔ jAr (dC, dI) (ca 1) (fun j z => 0 ≤ z.toInt ∧ z.toInt ≤ 3) n a H) : ∀ ef, qX13_replaced l dC dI ca base B ef := fun ef => Nat.strongRecOn ef (fun e ih => fun G0 H0 r0 a1 a2 a3 pn py zs zn za zb zc zy gb C => uX13_replaced l dC dI ca base B hB hAp hB15 hB150 hB151 hB152 hB153 hB154 hB165 e ih G0 H0 r0 a1 a2 a3 pn py zs zn za zb zc zy gb C)
end
