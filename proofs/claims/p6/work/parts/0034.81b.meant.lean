section
theorem dX13_meant_0 : decode cX13_meant 0 = .ok (.aload_n 0, 1) := by decide +kernel
theorem dX13_meant_1 : decode cX13_meant 1 = .ok (.getfield 221, 3) := by decide +kernel
theorem dX13_meant_4 : decode cX13_meant 4 = .ok (.ifCond .le 5, 3) := by decide +kernel
theorem dX13_meant_7 : decode cX13_meant 7 = .ok (.iconst 0, 1) := by decide +kernel
theorem dX13_meant_8 : decode cX13_meant 8 = .ok (.ireturn, 1) := by decide +kernel
theorem dX13_meant_9 : decode cX13_meant 9 = .ok (.aload_n 0, 1) := by decide +kernel
theorem dX13_meant_10 : decode cX13_meant 10 = .ok (.getfield 12, 3) := by decide +kernel
theorem dX13_meant_13 : decode cX13_meant 13 = .ok (.iload_n 1, 1) := by decide +kernel
theorem dX13_meant_14 : decode cX13_meant 14 = .ok (.iaload, 1) := by decide +kernel
theorem dX13_meant_15 : decode cX13_meant 15 = .ok (.istore_n 2, 1) := by decide +kernel
theorem dX13_meant_16 : decode cX13_meant 16 = .ok (.iload_n 2, 1) := by decide +kernel
theorem dX13_meant_17 : decode cX13_meant 17 = .ok (.bipush 11, 2) := by decide +kernel
theorem dX13_meant_19 : decode cX13_meant 19 = .ok (.if_icmp .ne 58, 3) := by decide +kernel
theorem dX13_meant_22 : decode cX13_meant 22 = .ok (.aload_n 0, 1) := by decide +kernel
theorem dX13_meant_23 : decode cX13_meant 23 = .ok (.aload_n 0, 1) := by decide +kernel
theorem dX13_meant_24 : decode cX13_meant 24 = .ok (.getfield 16, 3) := by decide +kernel
theorem dX13_meant_27 : decode cX13_meant 27 = .ok (.iload_n 1, 1) := by decide +kernel
theorem dX13_meant_28 : decode cX13_meant 28 = .ok (.iaload, 1) := by decide +kernel
theorem dX13_meant_29 : decode cX13_meant 29 = .ok (.invokevirtual 224, 3) := by decide +kernel
theorem dX13_meant_32 : decode cX13_meant 32 = .ok (.istore_n 3, 1) := by decide +kernel
theorem dX13_meant_33 : decode cX13_meant 33 = .ok (.iload_n 3, 1) := by decide +kernel
theorem dX13_meant_34 : decode cX13_meant 34 = .ok (.ifCond .lt 27, 3) := by decide +kernel
theorem dX13_meant_37 : decode cX13_meant 37 = .ok (.aload_n 0, 1) := by decide +kernel
theorem dX13_meant_38 : decode cX13_meant 38 = .ok (.getfield 40, 3) := by decide +kernel
theorem dX13_meant_41 : decode cX13_meant 41 = .ok (.iload_n 3, 1) := by decide +kernel
theorem dX13_meant_42 : decode cX13_meant 42 = .ok (.baload, 1) := by decide +kernel
theorem dX13_meant_43 : decode cX13_meant 43 = .ok (.ifCond .eq 18, 3) := by decide +kernel
theorem dX13_meant_46 : decode cX13_meant 46 = .ok (.aload_n 0, 1) := by decide +kernel
theorem dX13_meant_47 : decode cX13_meant 47 = .ok (.getfield 44, 3) := by decide +kernel
theorem dX13_meant_50 : decode cX13_meant 50 = .ok (.iload_n 3, 1) := by decide +kernel
theorem dX13_meant_51 : decode cX13_meant 51 = .ok (.iaload, 1) := by decide +kernel
theorem dX13_meant_52 : decode cX13_meant 52 = .ok (.aload_n 0, 1) := by decide +kernel
theorem dX13_meant_53 : decode cX13_meant 53 = .ok (.getfield 25, 3) := by decide +kernel
theorem dX13_meant_56 : decode cX13_meant 56 = .ok (.iload_n 1, 1) := by decide +kernel
theorem dX13_meant_57 : decode cX13_meant 57 = .ok (.iaload, 1) := by decide +kernel
theorem dX13_meant_58 : decode cX13_meant 58 = .ok (.if_icmp .eq 10, 3) := by decide +kernel
theorem dX13_meant_61 : decode cX13_meant 61 = .ok (.aload_n 0, 1) := by decide +kernel
theorem dX13_meant_62 : decode cX13_meant 62 = .ok (.iconst 5, 1) := by decide +kernel
theorem dX13_meant_63 : decode cX13_meant 63 = .ok (.invokevirtual 236, 3) := by decide +kernel
theorem dX13_meant_66 : decode cX13_meant 66 = .ok (.iconst 0, 1) := by decide +kernel
theorem dX13_meant_67 : decode cX13_meant 67 = .ok (.ireturn, 1) := by decide +kernel
theorem dX13_meant_68 : decode cX13_meant 68 = .ok (.aload_n 0, 1) := by decide +kernel
theorem dX13_meant_69 : decode cX13_meant 69 = .ok (.bipush 7, 2) := by decide +kernel
theorem dX13_meant_71 : decode cX13_meant 71 = .ok (.iload_n 3, 1) := by decide +kernel
theorem dX13_meant_72 : decode cX13_meant 72 = .ok (.iload_n 1, 1) := by decide +kernel
theorem dX13_meant_73 : decode cX13_meant 73 = .ok (.invokevirtual 245, 3) := by decide +kernel
theorem dX13_meant_76 : decode cX13_meant 76 = .ok (.ireturn, 1) := by decide +kernel
theorem dX13_meant_77 : decode cX13_meant 77 = .ok (.iload_n 2, 1) := by decide +kernel
theorem dX13_meant_78 : decode cX13_meant 78 = .ok (.iconst 3, 1) := by decide +kernel
theorem dX13_meant_79 : decode cX13_meant 79 = .ok (.if_icmp .ne 5, 3) := by decide +kernel
theorem dX13_meant_82 : decode cX13_meant 82 = .ok (.iload_n 1, 1) := by decide +kernel
theorem dX13_meant_83 : decode cX13_meant 83 = .ok (.ireturn, 1) := by decide +kernel
theorem dX13_meant_84 : decode cX13_meant 84 = .ok (.iload_n 2, 1) := by decide +kernel
theorem dX13_meant_85 : decode cX13_meant 85 = .ok (.bipush 6, 2) := by decide +kernel
theorem dX13_meant_87 : decode cX13_meant 87 = .ok (.if_icmp .ne 34, 3) := by decide +kernel
theorem dX13_meant_90 : decode cX13_meant 90 = .ok (.aload_n 0, 1) := by decide +kernel
theorem dX13_meant_91 : decode cX13_meant 91 = .ok (.aload_n 0, 1) := by decide +kernel
theorem dX13_meant_92 : decode cX13_meant 92 = .ok (.getfield 19, 3) := by decide +kernel
theorem dX13_meant_95 : decode cX13_meant 95 = .ok (.iload_n 1, 1) := by decide +kernel
theorem dX13_meant_96 : decode cX13_meant 96 = .ok (.iaload, 1) := by decide +kernel
theorem dX13_meant_97 : decode cX13_meant 97 = .ok (.invokevirtual 239, 3) := by decide +kernel
theorem dX13_meant_100 : decode cX13_meant 100 = .ok (.istore_n 3, 1) := by decide +kernel
theorem dX13_meant_101 : decode cX13_meant 101 = .ok (.aload_n 0, 1) := by decide +kernel
theorem dX13_meant_102 : decode cX13_meant 102 = .ok (.bipush 6, 2) := by decide +kernel
theorem dX13_meant_104 : decode cX13_meant 104 = .ok (.iconst 0, 1) := by decide +kernel
theorem dX13_meant_105 : decode cX13_meant 105 = .ok (.iload_n 3, 1) := by decide +kernel
theorem dX13_meant_106 : decode cX13_meant 106 = .ok (.aload_n 0, 1) := by decide +kernel
theorem dX13_meant_107 : decode cX13_meant 107 = .ok (.aload_n 0, 1) := by decide +kernel
theorem dX13_meant_108 : decode cX13_meant 108 = .ok (.getfield 22, 3) := by decide +kernel
theorem dX13_meant_111 : decode cX13_meant 111 = .ok (.iload_n 1, 1) := by decide +kernel
theorem dX13_meant_112 : decode cX13_meant 112 = .ok (.iaload, 1) := by decide +kernel
theorem dX13_meant_113 : decode cX13_meant 113 = .ok (.invokevirtual 239, 3) := by decide +kernel
theorem dX13_meant_116 : decode cX13_meant 116 = .ok (.iconst 0, 1) := by decide +kernel
theorem dX13_meant_117 : decode cX13_meant 117 = .ok (.invokevirtual 197, 3) := by decide +kernel
theorem dX13_meant_120 : decode cX13_meant 120 = .ok (.ireturn, 1) := by decide +kernel
theorem dX13_meant_121 : decode cX13_meant 121 = .ok (.iload_n 2, 1) := by decide +kernel
theorem dX13_meant_122 : decode cX13_meant 122 = .ok (.iconst 4, 1) := by decide +kernel
theorem dX13_meant_123 : decode cX13_meant 123 = .ok (.if_icmp .eq 8, 3) := by decide +kernel
theorem dX13_meant_126 : decode cX13_meant 126 = .ok (.iload_n 2, 1) := by decide +kernel
theorem dX13_meant_127 : decode cX13_meant 127 = .ok (.iconst 5, 1) := by decide +kernel
theorem dX13_meant_128 : decode cX13_meant 128 = .ok (.if_icmp .ne 64, 3) := by decide +kernel
theorem dX13_meant_131 : decode cX13_meant 131 = .ok (.aload_n 0, 1) := by decide +kernel
theorem dX13_meant_132 : decode cX13_meant 132 = .ok (.getfield 77, 3) := by decide +kernel
theorem dX13_meant_135 : decode cX13_meant 135 = .ok (.aload_n 0, 1) := by decide +kernel
theorem dX13_meant_136 : decode cX13_meant 136 = .ok (.getfield 242, 3) := by decide +kernel
theorem dX13_meant_139 : decode cX13_meant 139 = .ok (.aload_n 0, 1) := by decide +kernel
theorem dX13_meant_140 : decode cX13_meant 140 = .ok (.getfield 16, 3) := by decide +kernel
theorem dX13_meant_143 : decode cX13_meant 143 = .ok (.iload_n 1, 1) := by decide +kernel
theorem dX13_meant_144 : decode cX13_meant 144 = .ok (.iaload, 1) := by decide +kernel
theorem dX13_meant_145 : decode cX13_meant 145 = .ok (.iastore, 1) := by decide +kernel
theorem dX13_meant_146 : decode cX13_meant 146 = .ok (.aload_n 0, 1) := by decide +kernel
theorem dX13_meant_147 : decode cX13_meant 147 = .ok (.dup, 1) := by decide +kernel
theorem dX13_meant_148 : decode cX13_meant 148 = .ok (.getfield 242, 3) := by decide +kernel
theorem dX13_meant_151 : decode cX13_meant 151 = .ok (.iconst 1, 1) := by decide +kernel
theorem dX13_meant_152 : decode cX13_meant 152 = .ok (.iadd, 1) := by decide +kernel
theorem dX13_meant_153 : decode cX13_meant 153 = .ok (.putfield 242, 3) := by decide +kernel
theorem dX13_meant_156 : decode cX13_meant 156 = .ok (.aload_n 0, 1) := by decide +kernel
theorem dX13_meant_157 : decode cX13_meant 157 = .ok (.aload_n 0, 1) := by decide +kernel
theorem dX13_meant_158 : decode cX13_meant 158 = .ok (.getfield 19, 3) := by decide +kernel
theorem dX13_meant_161 : decode cX13_meant 161 = .ok (.iload_n 1, 1) := by decide +kernel
theorem dX13_meant_162 : decode cX13_meant 162 = .ok (.iaload, 1) := by decide +kernel
theorem dX13_meant_163 : decode cX13_meant 163 = .ok (.invokevirtual 249, 3) := by decide +kernel
theorem dX13_meant_166 : decode cX13_meant 166 = .ok (.istore_n 3, 1) := by decide +kernel
theorem dX13_meant_167 : decode cX13_meant 167 = .ok (.aload_n 0, 1) := by decide +kernel
theorem dX13_meant_168 : decode cX13_meant 168 = .ok (.dup, 1) := by decide +kernel
theorem dX13_meant_169 : decode cX13_meant 169 = .ok (.getfield 242, 3) := by decide +kernel
theorem dX13_meant_172 : decode cX13_meant 172 = .ok (.iconst 1, 1) := by decide +kernel
theorem dX13_meant_173 : decode cX13_meant 173 = .ok (.isub, 1) := by decide +kernel
theorem dX13_meant_174 : decode cX13_meant 174 = .ok (.putfield 242, 3) := by decide +kernel
theorem dX13_meant_177 : decode cX13_meant 177 = .ok (.aload_n 0, 1) := by decide +kernel
theorem dX13_meant_178 : decode cX13_meant 178 = .ok (.iload_n 2, 1) := by decide +kernel
theorem dX13_meant_179 : decode cX13_meant 179 = .ok (.aload_n 0, 1) := by decide +kernel
theorem dX13_meant_180 : decode cX13_meant 180 = .ok (.getfield 16, 3) := by decide +kernel
theorem dX13_meant_183 : decode cX13_meant 183 = .ok (.iload_n 1, 1) := by decide +kernel
theorem dX13_meant_184 : decode cX13_meant 184 = .ok (.iaload, 1) := by decide +kernel
theorem dX13_meant_185 : decode cX13_meant 185 = .ok (.iload_n 3, 1) := by decide +kernel
theorem dX13_meant_186 : decode cX13_meant 186 = .ok (.iconst 0, 1) := by decide +kernel
theorem dX13_meant_187 : decode cX13_meant 187 = .ok (.iconst 0, 1) := by decide +kernel
theorem dX13_meant_188 : decode cX13_meant 188 = .ok (.invokevirtual 197, 3) := by decide +kernel
theorem dX13_meant_191 : decode cX13_meant 191 = .ok (.ireturn, 1) := by decide +kernel
theorem dX13_meant_192 : decode cX13_meant 192 = .ok (.aload_n 0, 1) := by decide +kernel
theorem dX13_meant_193 : decode cX13_meant 193 = .ok (.aload_n 0, 1) := by decide +kernel
theorem dX13_meant_194 : decode cX13_meant 194 = .ok (.getfield 19, 3) := by decide +kernel
theorem dX13_meant_197 : decode cX13_meant 197 = .ok (.iload_n 1, 1) := by decide +kernel
theorem dX13_meant_198 : decode cX13_meant 198 = .ok (.iaload, 1) := by decide +kernel
theorem dX13_meant_199 : decode cX13_meant 199 = .ok (.invokevirtual 249, 3) := by decide +kernel
theorem dX13_meant_202 : decode cX13_meant 202 = .ok (.istore_n 3, 1) := by decide +kernel
theorem dX13_meant_203 : decode cX13_meant 203 = .ok (.aload_n 0, 1) := by decide +kernel
theorem dX13_meant_204 : decode cX13_meant 204 = .ok (.iload_n 2, 1) := by decide +kernel
theorem dX13_meant_205 : decode cX13_meant 205 = .ok (.iconst 0, 1) := by decide +kernel
theorem dX13_meant_206 : decode cX13_meant 206 = .ok (.iload_n 3, 1) := by decide +kernel
theorem dX13_meant_207 : decode cX13_meant 207 = .ok (.aload_n 0, 1) := by decide +kernel
theorem dX13_meant_208 : decode cX13_meant 208 = .ok (.aload_n 0, 1) := by decide +kernel
theorem dX13_meant_209 : decode cX13_meant 209 = .ok (.getfield 22, 3) := by decide +kernel
theorem dX13_meant_212 : decode cX13_meant 212 = .ok (.iload_n 1, 1) := by decide +kernel
theorem dX13_meant_213 : decode cX13_meant 213 = .ok (.iaload, 1) := by decide +kernel
theorem dX13_meant_214 : decode cX13_meant 214 = .ok (.invokevirtual 249, 3) := by decide +kernel
theorem dX13_meant_217 : decode cX13_meant 217 = .ok (.iconst 0, 1) := by decide +kernel
theorem dX13_meant_218 : decode cX13_meant 218 = .ok (.invokevirtual 197, 3) := by decide +kernel
theorem dX13_meant_221 : decode cX13_meant 221 = .ok (.ireturn, 1) := by decide +kernel
def EX13_meant : List (Nat × Nat) := [(15, 5), (15, 34), (15, 36), (150, 0), (151, 0), (152, 0), (153, 0), (154, 0), (163, 0)]
def qX13_meant (l : Launch) (dC : Nat → ClassId) (dI : Nat → Nat → Nat) (ca : Nat → ClassId) (base : Nat) (B : jF) (ee : Nat) : Prop := ∀ (G0 : jT) (H0 : Heap) (r0 : Nat) (a1 : Int32) (pn : Int32) (pu : Int32) (py : Int32) (pb : Int32) (zs : Nat) (zn : Nat) (za : Nat) (zb : Nat) (zc : Nat) (zy : Nat) (gq : Nat) (lo : Int) (hi : Int) (C : jK), Met l yX13_meant (jw yX13_meant cX13_meant 4 (some .int)) ({ frames := ee + 40, cells := 0, slots := 0, locals := 40 * ee + 1500 }) (va_Pc [.ref r0, .int a1] (fun U => U.heap = H0 ∧ jX B base G0 [] H0 ∧ jG dC dI ca base U ∧ G0 r0 = some (15, 0) ∧ G0 zs = some (150, 120000) ∧ G0 zn = some (151, 120000) ∧ G0 za = some (152, 120000) ∧ G0 zb = some (153, 120000) ∧ G0 zc = some (154, 120000) ∧ G0 zy = some (165, 16) ∧ jP (dC, dI) G0 H0 [(r0, 15, 5, .int pn), (r0, 15, 34, .int pu), (r0, 15, 11, .int py), (r0, 15, 36, .int pb), (r0, 15, 0, .ref zs), (r0, 15, 1, .ref zn), (r0, 15, 2, .ref za), (r0, 15, 3, .ref zb), (r0, 15, 4, .ref zc), (r0, 15, 14, .ref zy)] ∧ jMc (dC, dI) G0 H0 [(zs, 150, 120000, ca 1, C.s), (zn, 151, 120000, ca 1, C.n), (za, 152, 120000, ca 1, C.a), (zb, 153, 120000, ca 1, C.b), (zc, 154, 120000, ca 1, C.c), (zy, 165, 16, ca 1, C.y)] ∧ jRw C ee gq lo a1.toInt hi ∧ hi ≤ pn.toInt ∧ pn.toInt + (hi - lo) ≤ 119999 ∧ 0 ≤ pu.toInt ∧ pu.toInt ≤ 9 ∧ 0 ≤ py.toInt ∧ py.toInt ≤ 16 ∧ 0 ≤ pb.toInt ∧ pb.toInt + gq ≤ 199 ∧ 0 ≤ pn.toInt ∧ ee ≤ 1510)) (va_Qi (S := Int32 × Int32 × Int32 × jK) (fun r u => (pn.toInt ≤ u.1.toInt ∧ u.1.toInt ≤ pn.toInt + (hi - lo) ∧ pu.toInt ≤ u.2.1.toInt ∧ u.2.1.toInt ≤ 9 ∧ jAgK C u.2.2.2 pn.toInt ∧ u.2.2.1.toInt = pb.toInt ∧ (u.2.1.toInt ≤ 0 → jFm u.2.2.2 u.1.toInt py.toInt (ee + 13) pb.toInt r.toInt ∧ jsz u.2.2.2 r.toInt ≤ hi - lo))) (fun u t => jRt (dC, dI) B base G0 EX13_meant H0 [(r0, 15, 5, .int u.1), (r0, 15, 34, .int u.2.1), (r0, 15, 36, .int u.2.2.1)] t.heap ∧ jMc (dC, dI) G0 t.heap [(zs, 150, 120000, ca 1, u.2.2.2.s), (zn, 151, 120000, ca 1, u.2.2.2.n), (za, 152, 120000, ca 1, u.2.2.2.a), (zb, 153, 120000, ca 1, u.2.2.2.b), (zc, 154, 120000, ca 1, u.2.2.2.c), (zy, 165, 16, ca 1, u.2.2.2.y)]) (jA base)) 0 0 (jA base)
set_option maxHeartbeats 4000000 in
set_option maxRecDepth 20000 in
theorem uX13_meant (l : Launch) (dC : Nat → ClassId) (dI : Nat → Nat → Nat) (ca : Nat → ClassId) (base : Nat) (B : jF) (hB : jBok B) (hAp : jAp (dC, dI)) (hB15 : ∀ n G a H, B 15 n G a H ↔ jOb (dC, dI) 15 50 (F15 n G) a H) (hB103 : ∀ n G a H, B 103 n G a H ↔ jAr (dC, dI) (ca 3) (fun j z => (z = 0 ∨ z = 1)) n a H) (hB150 : ∀ n G a H, B 150 n G a H ↔ jAr (dC, dI) (ca 1) (fun j z => True) n a H) (hB151 : ∀ n G a H, B 151 n G a H ↔ jAr (dC, dI) (ca 1) (fun j z => True) n a H) (hB152 : ∀ n G a H, B 152 n G a H ↔ jAr (dC, dI) (ca 1) (fun j z => True) n a H) (hB153 : ∀ n G a H, B 153 n G a H ↔ jAr (dC, dI) (ca 1) (fun j z => True) n a H) (hB154 : ∀ n G a H, B 154 n G a H ↔ jAr (dC, dI) (ca 1) (fun j z => True) n a H) (hB158 : ∀ n G a H, B 158 n G a H ↔ jAr (dC, dI) (ca 1) (fun j z => 0 ≤ z.toInt ∧ z.toInt ≤ 6) n a H) (hB163 : ∀ n G a H, B 163 n G a H ↔ jAr (dC, dI) (ca 1) (fun j z => 0 ≤ z.toInt ∧ z.toInt ≤ 1599) n a H) (hB165 : ∀ n G a H, B 165 n G a H ↔ jAr (dC, dI) (ca 1) (fun j z => 0 ≤ z.toInt ∧ z.toInt ≤ 3) n a H) (ee : Nat) (ih : ∀ e1, e1 < ee → qX13_meant l dC dI ca base B e1) (G0 : jT) (H0 : Heap) (r0 : Nat) (a1 : Int32) (pn : Int32) (pu : Int32) (py : Int32) (pb : Int32) (zs : Nat) (zn : Nat) (za : Nat) (zb : Nat) (zc : Nat) (zy : Nat) (gq : Nat) (lo : Int) (hi : Int) (C : jK) : Met l yX13_meant (jw yX13_meant cX13_meant 4 (some .int)) ({ frames := ee + 40, cells := 0, slots := 0, locals := 40 * ee + 1500 }) (va_Pc [.ref r0, .int a1] (fun U => U.heap = H0 ∧ jX B base G0 [] H0 ∧ jG dC dI ca base U ∧ G0 r0 = some (15, 0) ∧ G0 zs = some (150, 120000) ∧ G0 zn = some (151, 120000) ∧ G0 za = some (152, 120000) ∧ G0 zb = some (153, 120000) ∧ G0 zc = some (154, 120000) ∧ G0 zy = some (165, 16) ∧ jP (dC, dI) G0 H0 [(r0, 15, 5, .int pn), (r0, 15, 34, .int pu), (r0, 15, 11, .int py), (r0, 15, 36, .int pb), (r0, 15, 0, .ref zs), (r0, 15, 1, .ref zn), (r0, 15, 2, .ref za), (r0, 15, 3, .ref zb), (r0, 15, 4, .ref zc), (r0, 15, 14, .ref zy)] ∧ jMc (dC, dI) G0 H0 [(zs, 150, 120000, ca 1, C.s), (zn, 151, 120000, ca 1, C.n), (za, 152, 120000, ca 1, C.a), (zb, 153, 120000, ca 1, C.b), (zc, 154, 120000, ca 1, C.c), (zy, 165, 16, ca 1, C.y)] ∧ jRw C ee gq lo a1.toInt hi ∧ hi ≤ pn.toInt ∧ pn.toInt + (hi - lo) ≤ 119999 ∧ 0 ≤ pu.toInt ∧ pu.toInt ≤ 9 ∧ 0 ≤ py.toInt ∧ py.toInt ≤ 16 ∧ 0 ≤ pb.toInt ∧ pb.toInt + gq ≤ 199 ∧ 0 ≤ pn.toInt ∧ ee ≤ 1510)) (va_Qi (S := Int32 × Int32 × Int32 × jK) (fun r u => (pn.toInt ≤ u.1.toInt ∧ u.1.toInt ≤ pn.toInt + (hi - lo) ∧ pu.toInt ≤ u.2.1.toInt ∧ u.2.1.toInt ≤ 9 ∧ jAgK C u.2.2.2 pn.toInt ∧ u.2.2.1.toInt = pb.toInt ∧ (u.2.1.toInt ≤ 0 → jFm u.2.2.2 u.1.toInt py.toInt (ee + 13) pb.toInt r.toInt ∧ jsz u.2.2.2 r.toInt ≤ hi - lo))) (fun u t => jRt (dC, dI) B base G0 EX13_meant H0 [(r0, 15, 5, .int u.1), (r0, 15, 34, .int u.2.1), (r0, 15, 36, .int u.2.2.1)] t.heap ∧ jMc (dC, dI) G0 t.heap [(zs, 150, 120000, ca 1, u.2.2.2.s), (zn, 151, 120000, ca 1, u.2.2.2.n), (za, 152, 120000, ca 1, u.2.2.2.a), (zb, 153, 120000, ca 1, u.2.2.2.b), (zc, 154, 120000, ca 1, u.2.2.2.c), (zy, 165, 16, ca 1, u.2.2.2.y)]) (jA base)) 0 0 (jA base) := by
  refine Met.ofW (cc := cX13_meant) (maxL := 4) (ret := (some .int)) (by decide) rfl ?_
  intro p e s m args below meth c s₁ Bd hml hv
  obtain ⟨rfl, hH0, hX, hG, hg_r0, hg_zs, hg_zn, hg_za, hg_zb, hg_zc, hg_zy, hP0, hM0, hp0, hp1, hp2, hp3, hp4, hp5, hp6, hp7, hp8, hp9, hp10⟩ := hv
  have hK := hG.1
  have hx := Bd.exec
  have hb := Bd.bytes
  have hr := Bd.returns
  have hts := atoms_spec (ws := (jw yX13_meant cX13_meant 4 (some .int))) Bd.pre
  have htw : ∀ w ∈ jWl, w.before _ s = true := fun w h => hts w (List.mem_cons_of_mem _ h)
  have hown : s.vm.findClass RX13 = some m.cls := findClass_of_methodNamed Bd.named
  have hlocks := Bd.notSynchronized
  obtain ⟨Q, hQ⟩ : ∃ Q, Q = MQ below (va_Qi (S := Int32 × Int32 × Int32 × jK) (fun r u => (pn.toInt ≤ u.1.toInt ∧ u.1.toInt ≤ pn.toInt + (hi - lo) ∧ pu.toInt ≤ u.2.1.toInt ∧ u.2.1.toInt ≤ 9 ∧ jAgK C u.2.2.2 pn.toInt ∧ u.2.2.1.toInt = pb.toInt ∧ (u.2.1.toInt ≤ 0 → jFm u.2.2.2 u.1.toInt py.toInt (ee + 13) pb.toInt r.toInt ∧ jsz u.2.2.2 r.toInt ≤ hi - lo))) (fun u t => jRt (dC, dI) B base G0 EX13_meant H0 [(r0, 15, 5, .int u.1), (r0, 15, 34, .int u.2.1), (r0, 15, 36, .int u.2.2.1)] t.heap ∧ jMc (dC, dI) G0 t.heap [(zs, 150, 120000, ca 1, u.2.2.2.s), (zn, 151, 120000, ca 1, u.2.2.2.n), (za, 152, 120000, ca 1, u.2.2.2.a), (zb, 153, 120000, ca 1, u.2.2.2.b), (zc, 154, 120000, ca 1, u.2.2.2.c), (zy, 165, 16, ca 1, u.2.2.2.y)]) (jA base)) ([.ref r0, .int a1] : List Value).toArray s 0 0 (jA base) := ⟨_, rfl⟩
  rw [← hQ]
  have hl := lv_entry ([.ref r0, .int a1]) (n := 4) (Nat.le_of_ble_eq_true rfl)
  rw [lg_entry_eq]
  generalize (lg_sl ([.ref r0, .int a1]) ++ List.replicate (4 - (lg_sl ([.ref r0, .int a1])).length) Slot.unset).toArray = ls at hl ⊢
  have hl : lv_has ls 4 [(0, .ref r0), (1, .int a1)] := hl
  generalize hR : (headSpec (jw yX13_meant cX13_meant 4 (some .int)) ({ frames := ee + 40, cells := 0, slots := 0, locals := 40 * ee + 1500 })).room = R
  subst hH0
  have hh : jSt (dC, dI) B base G0 G0 EX13_meant s.heap 0 0 [(r0, 15, 5, .int pn), (r0, 15, 34, .int pu), (r0, 15, 11, .int py), (r0, 15, 36, .int pb), (r0, 15, 0, .ref zs), (r0, 15, 1, .ref zn), (r0, 15, 2, .ref za), (r0, 15, 3, .ref zb), (r0, 15, 4, .ref zc), (r0, 15, 14, .ref zy)] [(zs, 150, 120000, ca 1, C.s), (zn, 151, 120000, ca 1, C.n), (za, 152, 120000, ca 1, C.a), (zb, 153, 120000, ca 1, C.b), (zc, 154, 120000, ca 1, C.c), (zy, 165, 16, ca 1, C.y)] [] s.heap [] := jSt.start hX hP0 hM0 jIs.nil
  clear hX hP0
  have hk0 : (0 : Int32).toInt = 0 := by decide
  have hk1 : (1 : Int32).toInt = 1 := by decide
  have hk3 : (3 : Int32).toInt = 3 := by decide
  have hk4 : (4 : Int32).toInt = 4 := by decide
  have hk5 : (5 : Int32).toInt = 5 := by decide
  have hk6 : (6 : Int32).toInt = 6 := by decide
  have hk7 : (7 : Int32).toInt = 7 := by decide
  have hk11 : (11 : Int32).toInt = 11 := by decide
  have hly_15_0 := htw (u_lay RX13 TX13 0) (jWc_wsX130 _ (u_in_lay (by decide)))
  have hly_15_1 := htw (u_lay RX13 TX13 1) (jWc_wsX130 _ (u_in_lay (by decide)))
  have hly_15_2 := htw (u_lay RX13 TX13 2) (jWc_wsX130 _ (u_in_lay (by decide)))
  have hly_15_3 := htw (u_lay RX13 TX13 3) (jWc_wsX130 _ (u_in_lay (by decide)))
  have hly_15_4 := htw (u_lay RX13 TX13 4) (jWc_wsX130 _ (u_in_lay (by decide)))
  have hly_15_13 := htw (u_lay RX13 TX13 13) (jWc_wsX130 _ (u_in_lay (by decide)))
  have hly_15_14 := htw (u_lay RX13 TX13 14) (jWc_wsX130 _ (u_in_lay (by decide)))
  have hly_15_34 := htw (u_lay RX13 TX13 34) (jWc_wsX130 _ (u_in_lay (by decide)))
  have hly_15_35 := htw (u_lay RX13 TX13 35) (jWc_wsX130 _ (u_in_lay (by decide)))
  have hly_15_36 := htw (u_lay RX13 TX13 36) (jWc_wsX130 _ (u_in_lay (by decide)))
  have hlk_221 := (htw (.fieldLink RX13 221 "ProofServerModel$Kernel" "fault" "I") (jWr_60 _ (List.mem_of_getElem? (i := 3) rfl)))
  have hlk_12 := (htw (.fieldLink RX13 12 "ProofServerModel$Kernel" "sort" "[I") (jWr_14 _ (List.mem_of_getElem? (i := 9) rfl)))
  have hlk_16 := (htw (.fieldLink RX13 16 "ProofServerModel$Kernel" "name" "[I") (jWr_14 _ (List.mem_of_getElem? (i := 10) rfl)))
  have hlk_40 := (htw (.fieldLink RX13 40 "ProofServerModel$Kernel" "predicate" "[Z") (jWr_14 _ (List.mem_of_getElem? (i := 18) rfl)))
  have hlk_44 := (htw (.fieldLink RX13 44 "ProofServerModel$Kernel" "arity" "[I") (jWr_14 _ (List.mem_of_getElem? (i := 19) rfl)))
  have hlk_25 := (htw (.fieldLink RX13 25 "ProofServerModel$Kernel" "three" "[I") (jWr_14 _ (List.mem_of_getElem? (i := 13) rfl)))
  have hlk_19 := (htw (.fieldLink RX13 19 "ProofServerModel$Kernel" "one" "[I") (jWr_14 _ (List.mem_of_getElem? (i := 11) rfl)))
  have hlk_22 := (htw (.fieldLink RX13 22 "ProofServerModel$Kernel" "two" "[I") (jWr_14 _ (List.mem_of_getElem? (i := 12) rfl)))
  have hlk_77 := (htw (.fieldLink RX13 77 "ProofServerModel$Kernel" "binder" "[I") (jWr_15 _ (List.mem_of_getElem? (i := 6) rfl)))
  have hlk_242 := (htw (.fieldLink RX13 242 "ProofServerModel$Kernel" "binders" "I") (jWr_60 _ (List.mem_of_getElem? (i := 4) rfl)))
  have hrg_a1 := jb_rng a1
  have ho := hp0.ok
  refine lv_aload_n hx hb dX13_meant_0 rfl (lv_at hl 0 rfl) ?_
  refine j7_read hx hb hown hK (C := RX13) (T := TX13) (N := 50) rfl hly_15_34 hlk_221 (hh.at 1 rfl) dX13_meant_1 ?_
  refine lv_if_le (tgt := 9) hx hb dX13_meant_4 (by decide) (fun c_1 => ?_) (fun c_1 => ?_)
  · skip
    have c_1' : pu.toInt ≤ 0 := jb_le (rfl) ((by decide)) c_1
    refine lv_aload_n hx hb dX13_meant_9 rfl (lv_at hl 0 rfl) ?_
    refine j7_read hx hb hown hK (C := RX13) (T := TX13) (N := 50) rfl hly_15_0 hlk_12 (hh.at 4 rfl) dX13_meant_10 ?_
    refine lv_iload_n hx hb dX13_meant_13 rfl (lv_at hl 1 rfl) ?_
    refine j7_ialdM hx hb hK hh hB150 1 rfl (by decide) hg_zs (x := a1.toInt) (rfl) (by omega) (j := 0) rfl dX13_meant_14 (fun z_2 ez_2 (hz_2 : True) => ?_)
    have hqz_2 : z_2.toInt = jSo C.s (a1.toInt) := by unfold jSo; rw [ez_2]
    refine lv_istore_n (lv' := [(2, .int z_2), (0, .ref r0), (1, .int a1)]) hx hb dX13_meant_15 rfl hl (by decide) rfl (fun ls hl => ?_)
    refine lv_iload_n hx hb dX13_meant_16 rfl (lv_at hl 0 rfl) ?_
    refine lv_bipush (v := 11) hx hb dX13_meant_17 (by decide) ?_
    refine lv_icmp_ne (tgt := 77) hx hb dX13_meant_19 (by decide) (fun c_3 => ?_) (fun c_3 => ?_)
    · skip
      have c_3' : z_2.toInt ≠ 11 := jb_ne (rfl) ((by decide)) c_3
      refine lv_iload_n hx hb dX13_meant_77 rfl (lv_at hl 0 rfl) ?_
      refine lv_iconst (v := 3) hx hb dX13_meant_78 (by decide) ?_
      refine lv_icmp_ne (tgt := 84) hx hb dX13_meant_79 (by decide) (fun c_4 => ?_) (fun c_4 => ?_)
      · skip
        have c_4' : z_2.toInt ≠ 3 := jb_ne (rfl) ((by decide)) c_4
        refine lv_iload_n hx hb dX13_meant_84 rfl (lv_at hl 0 rfl) ?_
        refine lv_bipush (v := 6) hx hb dX13_meant_85 (by decide) ?_
        refine lv_icmp_ne (tgt := 121) hx hb dX13_meant_87 (by decide) (fun c_5 => ?_) (fun c_5 => ?_)
        · skip
          have c_5' : z_2.toInt ≠ 6 := jb_ne (rfl) ((by decide)) c_5
          refine lv_iload_n hx hb dX13_meant_121 rfl (lv_at hl 0 rfl) ?_
          refine lv_iconst (v := 4) hx hb dX13_meant_122 (by decide) ?_
          have C131 : ∀ (H_6 : Heap) (locs_6 : List Loc), jSt (dC, dI) B base G0 G0 EX13_meant s.heap 0 0 [(r0, 15, 5, .int pn), (r0, 15, 34, .int pu), (r0, 15, 11, .int py), (r0, 15, 36, .int pb), (r0, 15, 0, .ref zs), (r0, 15, 1, .ref zn), (r0, 15, 2, .ref za), (r0, 15, 3, .ref zb), (r0, 15, 4, .ref zc), (r0, 15, 14, .ref zy)] [(zs, 150, 120000, ca 1, C.s), (zn, 151, 120000, ca 1, C.n), (za, 152, 120000, ca 1, C.a), (zb, 153, 120000, ca 1, C.b), (zc, 154, 120000, ca 1, C.c), (zy, 165, 16, ca 1, C.y)] [] H_6 locs_6 → (4 ≤ z_2.toInt ∧ z_2.toInt ≤ 5) → ∀ ls : Array Slot, lv_has ls 4 [(0, .ref r0), (1, .int a1), (2, .int z_2)] → W p l e R s m ([.ref r0, .int a1] : List Value).toArray below meth c H_6 locs_6 0 0 Q (F0 m 131 ls []) := by
            intro  H_6 locs_6 hh_6  hi_6 ls hl
            obtain ⟨hi_6_0, hi_6_1⟩ := hi_6
            obtain ⟨n1, n2, n3, n4⟩ := hp0.c45 (by omega)
            have o4 := n4.ok
            refine lv_aload_n hx hb dX13_meant_131 rfl (lv_at hl 0 rfl) ?_
            obtain ⟨v_7, hv_7, hh_8⟩ := hh_6.pin (C := RX13) (T := TX13) (N := 50) hB15 rfl (by decide) hg_r0 (i := 35) (by decide) rfl
            clear hh_6
            obtain ⟨binder_9, rfl, hg_binder_9⟩ := hv_7
            refine j7_read hx hb hown hK (C := RX13) (T := TX13) (N := 50) rfl hly_15_35 hlk_77 (hh_8.at 0 rfl) dX13_meant_132 ?_
            refine lv_aload_n hx hb dX13_meant_135 rfl (lv_at hl 0 rfl) ?_
            refine j7_read hx hb hown hK (C := RX13) (T := TX13) (N := 50) rfl hly_15_36 hlk_242 (hh_8.at 4 rfl) dX13_meant_136 ?_
            refine lv_aload_n hx hb dX13_meant_139 rfl (lv_at hl 0 rfl) ?_
            refine j7_read hx hb hown hK (C := RX13) (T := TX13) (N := 50) rfl hly_15_1 hlk_16 (hh_8.at 6 rfl) dX13_meant_140 ?_
            refine lv_iload_n hx hb dX13_meant_143 rfl (lv_at hl 1 rfl) ?_
            refine j7_ialdM hx hb hK hh_8 hB151 1 rfl (by decide) hg_zn (x := a1.toInt) (rfl) (by omega) (j := 1) rfl dX13_meant_144 (fun z_10 ez_10 (hz_10 : True) => ?_)
            have hqz_10 : z_10.toInt = jSo C.n (a1.toInt) := by unfold jSo; rw [ez_10]
            refine j7_iast hx hb hK hh_8 hB hB163 1 rfl (by decide) (by decide) rfl rfl rfl hg_binder_9 (x := pb.toInt) (rfl) (by omega) (by first | omega | (refine ⟨?_, ?_⟩ <;> (first | omega | rfl | assumption | decide | exact Or.inl rfl | exact Or.inr rfl | (simp only; omega)))) dX13_meant_145 (fun H_11 locs_11 hh_11 => ?_)
            clear hh_8
            refine lv_aload_n hx hb dX13_meant_146 rfl (lv_at hl 0 rfl) ?_
            refine lv_dup hx hb dX13_meant_147 rfl ?_
            refine j7_read hx hb hown hK (C := RX13) (T := TX13) (N := 50) rfl hly_15_36 hlk_242 (hh_11.at 4 rfl) dX13_meant_148 ?_
            refine lv_iconst (v := 1) hx hb dX13_meant_151 (by decide) ?_
            refine lv_iadd hx hb dX13_meant_152 ?_
            refine lv_topi (fun z_12 ez_12 => ?_)
            have hz_12 : z_12.toInt = pb.toInt + 1 := by rw [ez_12]; exact jb_iadd2 (rfl) ((by decide)) (by omega)
            refine j7_put hx hb hown hK hh_11 hB hAp hB15 (C := RX13) (T := TX13) (N := 50) rfl (by decide) hg_r0 (i := 36) (by decide) hly_15_36 rfl hlk_242 rfl (ty := .int) (v := .int z_12) (by decide +kernel) rfl rfl (⟨_, rfl, by omega, by omega⟩) rfl (L1 := [(r0, 15, 35, .ref binder_9), (r0, 15, 5, .int pn), (r0, 15, 34, .int pu), (r0, 15, 11, .int py), (r0, 15, 0, .ref zs), (r0, 15, 1, .ref zn), (r0, 15, 2, .ref za), (r0, 15, 3, .ref zb), (r0, 15, 4, .ref zc), (r0, 15, 14, .ref zy)]) [0, 1, 2, 3, 5, 6, 7, 8, 9, 10] rfl rfl rfl dX13_meant_153 (fun H_13 locs_13 hh_13 => ?_)
            clear hh_11
            refine lv_aload_n hx hb dX13_meant_156 rfl (lv_at hl 0 rfl) ?_
            refine lv_aload_n hx hb dX13_meant_157 rfl (lv_at hl 0 rfl) ?_
            refine j7_read hx hb hown hK (C := RX13) (T := TX13) (N := 50) rfl hly_15_2 hlk_19 (hh_13.at 7 rfl) dX13_meant_158 ?_
            refine lv_iload_n hx hb dX13_meant_161 rfl (lv_at hl 1 rfl) ?_
            refine j7_ialdM hx hb hK hh_13 hB152 1 rfl (by decide) hg_za (x := a1.toInt) (rfl) (by omega) (j := 2) rfl dX13_meant_162 (fun z_14 ez_14 (hz_14 : True) => ?_)
            have hqz_14 : z_14.toInt = jSo C.a (a1.toInt) := by unfold jSo; rw [ez_14]
            refine va_calli (A0 := jA base) (H0 := s.heap) (va_runV (As := [.int z_14]) (rest := []) ⟨hx, hb, hml, hown, hts⟩ (ih (ee - 1) (by omega) G0 H_13 r0 z_14 pn pu py z_12 zs zn za zb zc zy (gq - 1) lo a1.toInt C) (cwV 1 hts (jgV (jWr_64 _ (List.mem_of_getElem? (i := 23) rfl)) (jWr_65 _ (List.mem_of_getElem? (i := 0) rfl)) (jWr_65 _ (List.mem_of_getElem? (i := 1) rfl)) (jWr_12 _ (List.mem_of_getElem? (i := 12) rfl)) (jWr_65 _ (List.mem_of_getElem? (i := 2) rfl))) rfl rfl rfl (by decide +kernel) ⟨by rw [← hR]; show (ee - 1 + 40) + 1 ≤ ee + 40; omega, by rw [← hR]; show 8 + (4 + 11) + (40 * (ee - 1) + 1500) ≤ 40 * ee + 1500; omega⟩) ⟨fun a U g mk q => by obtain ⟨q0, q1, q2, qK, q10, q11, q12, q13, q14, q15, q16, q17, q18, q19⟩ := q; exact ⟨q0, q1, q2, jG.calling g mk a qK, q10, q11, q12, q13, q14, q15, q16, q17, q18, q19⟩, hh_13.recv (C := RX13) (T := TX13) (N := 50) hB15 rfl (by decide) hg_r0 hK, fun U hU hW => ⟨rfl, hU, hh_13.2.1, hG.step hW hU hh_13.1, hg_r0, hg_zs, hg_zn, hg_za, hg_zb, hg_zc, hg_zy, (hh_13.2.2.1.sub (L1 := [(r0, 15, 5, .int pn), (r0, 15, 34, .int pu), (r0, 15, 11, .int py), (r0, 15, 36, .int z_12), (r0, 15, 0, .ref zs), (r0, 15, 1, .ref zn), (r0, 15, 2, .ref za), (r0, 15, 3, .ref zb), (r0, 15, 4, .ref zc), (r0, 15, 14, .ref zy)]) [2, 3, 4, 0, 5, 6, 7, 8, 9, 10] rfl), (hh_13.2.2.2.2.2.2.2.1.sub (L1 := [(zs, 150, 120000, ca 1, C.s), (zn, 151, 120000, ca 1, C.n), (za, 152, 120000, ca 1, C.a), (zb, 153, 120000, ca 1, C.b), (zc, 154, 120000, ca 1, C.c), (zy, 165, 16, ca 1, C.y)]) [0, 1, 2, 3, 4, 5] rfl), ⟨(by first | assumption | (rw [hqz_14]; exact n4) | omega), (by first | omega | rfl | assumption | (rw [hqz_14]; exact n4)), (by first | omega | rfl | assumption | (rw [hqz_14]; exact n4)), (by first | omega | rfl | assumption | (rw [hqz_14]; exact n4)), (by first | omega | rfl | assumption | (rw [hqz_14]; exact n4)), (by first | omega | rfl | assumption | (rw [hqz_14]; exact n4)), (by first | omega | rfl | assumption | (rw [hqz_14]; exact n4)), (by first | omega | rfl | assumption | (rw [hqz_14]; exact n4)), (by first | omega | rfl | assumption | (rw [hqz_14]; exact n4)), (by first | omega | rfl | assumption | (rw [hqz_14]; exact n4)), (by first | omega | rfl | assumption | (rw [hqz_14]; exact n4))⟩⟩⟩ rfl rfl hl.1 rfl (lv_room (Nat.le_of_ble_eq_true rfl)) dX13_meant_163 ⟨Nat.zero_le _, Nat.zero_le _⟩) hh_13.1 (fun q _ h => h) (fun q h => h) (fun r_16 u_15 t_15 H_15 locs_15 ht_15 hvm_15 hr_16 hb_15 hz_15 hk_15 hS_15 => ?_)
            obtain ⟨qn_15, qu_15, qb_15, D_15⟩ := u_15
            rw [ht_15] at hb_15
            obtain ⟨⟨hb_151, hb_152, hb_153, hb_154, hb_155⟩, hb_156⟩ := hb_15
            have hh_15 : jSt (dC, dI) B base G0 G0 EX13_meant s.heap 0 0 [(r0, 15, 5, .int qn_15), (r0, 15, 34, .int qu_15), (r0, 15, 36, .int qb_15), (r0, 15, 35, .ref binder_9), (r0, 15, 11, .int py), (r0, 15, 0, .ref zs), (r0, 15, 1, .ref zn), (r0, 15, 2, .ref za), (r0, 15, 3, .ref zb), (r0, 15, 4, .ref zc), (r0, 15, 14, .ref zy)] [(zs, 150, 120000, ca 1, D_15.s), (zn, 151, 120000, ca 1, D_15.n), (za, 152, 120000, ca 1, D_15.a), (zb, 153, 120000, ca 1, D_15.b), (zc, 154, 120000, ca 1, D_15.c), (zy, 165, 16, ca 1, D_15.y), (zy, 165, 16, ca 1, C.y)] [] H_15 locs_15 := ((hh_13.call hb_151 hb_152 hb_153 hb_154 hS_15 rfl (L1 := [(r0, 15, 35, .ref binder_9), (r0, 15, 11, .int py), (r0, 15, 0, .ref zs), (r0, 15, 1, .ref zn), (r0, 15, 2, .ref za), (r0, 15, 3, .ref zb), (r0, 15, 4, .ref zc), (r0, 15, 14, .ref zy)]) [1, 4, 5, 6, 7, 8, 9, 10] rfl rfl (M1 := [(zy, 165, 16, ca 1, C.y)]) [5] rfl rfl (I1 := []) [] rfl rfl).more hb_155).moreM hb_156
            clear hh_13 ht_15 hvm_15 hz_15 hk_15 hS_15 hb_151 hb_152 hb_153 hb_154 hb_155
            clear hb_156
            try simp only at hr_16
            obtain ⟨hr_16_0, hr_16_1, hr_16_2, hr_16_3, hr_16_4, hr_16_5, hr_16_6⟩ := hr_16
            refine lv_istore_n (lv' := [(3, .int r_16), (0, .ref r0), (1, .int a1), (2, .int z_2)]) hx hb dX13_meant_166 rfl hl (by decide) rfl (fun ls hl => ?_)
            refine lv_aload_n hx hb dX13_meant_167 rfl (lv_at hl 1 rfl) ?_
            refine lv_dup hx hb dX13_meant_168 rfl ?_
            refine j7_read hx hb hown hK (C := RX13) (T := TX13) (N := 50) rfl hly_15_36 hlk_242 (hh_15.at 2 rfl) dX13_meant_169 ?_
            refine lv_iconst (v := 1) hx hb dX13_meant_172 (by decide) ?_
            refine lv_isub hx hb dX13_meant_173 ?_
            refine lv_topi (fun z_17 ez_17 => ?_)
            have hz_17 : z_17.toInt = qb_15.toInt - 1 := by rw [ez_17]; exact jb_isub2 (rfl) ((by decide)) (by omega)
            refine j7_put hx hb hown hK hh_15 hB hAp hB15 (C := RX13) (T := TX13) (N := 50) rfl (by decide) hg_r0 (i := 36) (by decide) hly_15_36 rfl hlk_242 rfl (ty := .int) (v := .int z_17) (by decide +kernel) rfl rfl (⟨_, rfl, by omega, by omega⟩) rfl (L1 := [(r0, 15, 5, .int qn_15), (r0, 15, 34, .int qu_15), (r0, 15, 35, .ref binder_9), (r0, 15, 11, .int py), (r0, 15, 0, .ref zs), (r0, 15, 1, .ref zn), (r0, 15, 2, .ref za), (r0, 15, 3, .ref zb), (r0, 15, 4, .ref zc), (r0, 15, 14, .ref zy)]) [0, 1, 3, 4, 5, 6, 7, 8, 9, 10] rfl rfl rfl dX13_meant_174 (fun H_18 locs_18 hh_18 => ?_)
            clear hh_15
            refine lv_aload_n hx hb dX13_meant_177 rfl (lv_at hl 1 rfl) ?_
            refine lv_iload_n hx hb dX13_meant_178 rfl (lv_at hl 3 rfl) ?_
            refine lv_aload_n hx hb dX13_meant_179 rfl (lv_at hl 1 rfl) ?_
            refine j7_read hx hb hown hK (C := RX13) (T := TX13) (N := 50) rfl hly_15_1 hlk_16 (hh_18.at 6 rfl) dX13_meant_180 ?_
            refine lv_iload_n hx hb dX13_meant_183 rfl (lv_at hl 2 rfl) ?_
            refine j7_ialdM hx hb hK hh_18 hB151 1 rfl (by decide) hg_zn (x := a1.toInt) (rfl) (by omega) (j := 1) rfl dX13_meant_184 (fun z_19 ez_19 (hz_19 : True) => ?_)
            have hqz_19 : z_19.toInt = jSo D_15.n (a1.toInt) := by unfold jSo; rw [ez_19]
            refine lv_iload_n hx hb dX13_meant_185 rfl (lv_at hl 0 rfl) ?_
            refine lv_iconst (v := 0) hx hb dX13_meant_186 (by decide) ?_
            refine lv_iconst (v := 0) hx hb dX13_meant_187 (by decide) ?_
            refine va_calli (A0 := jA base) (H0 := s.heap) (va_runV (As := [.int z_2, .int z_19, .int r_16, .int 0, .int 0]) (rest := []) ⟨hx, hb, hml, hown, hts⟩ (uX13_nodeK l dC dI ca base B hB hAp hB15 hB150 hB151 hB152 hB153 hB154 hB165 G0 H_18 r0 z_2 z_19 r_16 0 0 qn_15 zs zn za zb zc zy D_15) (cwV 5 hts (jgV (jWr_62 _ (List.mem_of_getElem? (i := 9) rfl)) (jWr_62 _ (List.mem_of_getElem? (i := 10) rfl)) (jWr_62 _ (List.mem_of_getElem? (i := 11) rfl)) (jWr_12 _ (List.mem_of_getElem? (i := 12) rfl)) (jWr_62 _ (List.mem_of_getElem? (i := 12) rfl))) rfl rfl rfl (by decide +kernel) ⟨by rw [← hR]; show (0) + 1 ≤ ee + 40; omega, by rw [← hR]; show 8 + (6 + 11) + (0) ≤ 40 * ee + 1500; omega⟩) ⟨fun a U g mk q => by obtain ⟨q0, q1, q2, qK, q10, q11, q12, q13, q14, q15, q16, q17, q18, q19⟩ := q; exact ⟨q0, q1, q2, jG.calling g mk a qK, q10, q11, q12, q13, q14, q15, q16, q17, q18, q19⟩, hh_18.recv (C := RX13) (T := TX13) (N := 50) hB15 rfl (by decide) hg_r0 hK, fun U hU hW => ⟨rfl, hU, hh_18.2.1, hG.step hW hU hh_18.1, hg_r0, hg_zs, hg_zn, hg_za, hg_zb, hg_zc, hg_zy, (hh_18.2.2.1.sub (L1 := [(r0, 15, 5, .int qn_15), (r0, 15, 0, .ref zs), (r0, 15, 1, .ref zn), (r0, 15, 2, .ref za), (r0, 15, 3, .ref zb), (r0, 15, 4, .ref zc), (r0, 15, 14, .ref zy)]) [1, 5, 6, 7, 8, 9, 10] rfl), (hh_18.2.2.2.2.2.2.2.1.sub (L1 := [(zs, 150, 120000, ca 1, D_15.s), (zn, 151, 120000, ca 1, D_15.n), (za, 152, 120000, ca 1, D_15.a), (zb, 153, 120000, ca 1, D_15.b), (zc, 154, 120000, ca 1, D_15.c), (zy, 165, 16, ca 1, D_15.y)]) [0, 1, 2, 3, 4, 5] rfl), by first | omega | (refine ⟨?_, ?_⟩ <;> (first | omega | rfl | assumption | decide | exact Or.inl rfl | exact Or.inr rfl | (simp only; omega)))⟩⟩ rfl rfl hl.1 rfl (lv_room (Nat.le_of_ble_eq_true rfl)) dX13_meant_188 ⟨Nat.zero_le _, Nat.zero_le _⟩) hh_18.1 (fun q _ h => h) (fun q h => h) (fun r_21 u_20 t_20 H_20 locs_20 ht_20 hvm_20 hr_21 hb_20 hz_20 hk_20 hS_20 => ?_)
            obtain ⟨qn_20, D_20⟩ := u_20
            rw [ht_20] at hb_20
            obtain ⟨⟨hb_201, hb_202, hb_203, hb_204, hb_205⟩, hb_206⟩ := hb_20
            have hh_20 : jSt (dC, dI) B base G0 G0 EX13_meant s.heap 0 0 [(r0, 15, 5, .int qn_20), (r0, 15, 36, .int z_17), (r0, 15, 34, .int qu_15), (r0, 15, 35, .ref binder_9), (r0, 15, 11, .int py), (r0, 15, 0, .ref zs), (r0, 15, 1, .ref zn), (r0, 15, 2, .ref za), (r0, 15, 3, .ref zb), (r0, 15, 4, .ref zc), (r0, 15, 14, .ref zy)] [(zs, 150, 120000, ca 1, D_20.s), (zn, 151, 120000, ca 1, D_20.n), (za, 152, 120000, ca 1, D_20.a), (zb, 153, 120000, ca 1, D_20.b), (zc, 154, 120000, ca 1, D_20.c), (zy, 165, 16, ca 1, D_20.y), (zy, 165, 16, ca 1, D_15.y), (zy, 165, 16, ca 1, C.y)] [] H_20 locs_20 := ((hh_18.call hb_201 hb_202 hb_203 hb_204 hS_20 rfl (L1 := [(r0, 15, 36, .int z_17), (r0, 15, 34, .int qu_15), (r0, 15, 35, .ref binder_9), (r0, 15, 11, .int py), (r0, 15, 0, .ref zs), (r0, 15, 1, .ref zn), (r0, 15, 2, .ref za), (r0, 15, 3, .ref zb), (r0, 15, 4, .ref zc), (r0, 15, 14, .ref zy)]) [0, 2, 3, 4, 5, 6, 7, 8, 9, 10] rfl rfl (M1 := [(zy, 165, 16, ca 1, D_15.y), (zy, 165, 16, ca 1, C.y)]) [5, 6] rfl rfl (I1 := []) [] rfl rfl).more hb_205).moreM hb_206
            clear hh_18 ht_20 hvm_20 hz_20 hk_20 hS_20 hb_201 hb_202 hb_203 hb_204 hb_205
            clear hb_206
            try simp only at hr_21
            obtain ⟨hr_21_0, hr_21_1, hr_21_2⟩ := hr_21
            rw [hQ]
            exact W.iret (v := r_21) hx hb hr (fun t ht hW => ⟨⟨r_21, (qn_20, qu_15, z_17, D_20), rfl, by
    try dsimp only
    have hs := hr_16_4.so (n := a1.toInt) (by omega) (by omega)
    refine ⟨by omega, by omega, by omega, by omega, hr_16_4.tr hr_21_2.1 (by omega), by omega, fun h9 => ?_⟩
    obtain ⟨f0, s0⟩ := hr_16_6 (by omega)
    have k := jMk1 (d := ee - 1 + 13) (b := pb.toInt) (Y := py.toInt) hr_21_2 (by omega) (by omega) (by omega) (by omega) (f0.mono (Nat.le_refl _) (by omega))
    rw [hr_21_0, hr_21_1]
    exact ⟨k.1.mono (by omega) (Int.le_refl _), by omega⟩, ⟨hh_20.rt (M1 := [(r0, 15, 5, .int qn_20), (r0, 15, 34, .int qu_15), (r0, 15, 36, .int z_17)]) [0, 2, 1] rfl ht, by rw [ht]; exact hh_20.2.2.2.2.2.2.2.1.sub [0, 1, 2, 3, 4, 5] rfl⟩⟩, by rw [ht]; try exact hh_20.1.1, fun q h9 hq => by rw [ht]; try exact hh_20.1.2.1 q h9 hq⟩) hh_20.1.2.2 dX13_meant_191
          refine lv_icmp_eq (tgt := 131) hx hb dX13_meant_123 (by decide) (fun c_22 => ?_) (fun c_22 => ?_)
          · skip
            have c_22' : z_2.toInt = 4 := jb_eq (rfl) ((by decide)) c_22
            exact C131  _ _ hh (by first | omega | (refine ⟨?_, ?_⟩ <;> (first | omega | rfl | assumption | decide | exact Or.inl rfl | exact Or.inr rfl | (simp only; omega)))) _ (lv_sub hl [1, 2, 0] rfl)
          · skip
            have c_22' : z_2.toInt ≠ 4 := jb_eq_n (rfl) ((by decide)) c_22
            refine lv_iload_n hx hb dX13_meant_126 rfl (lv_at hl 0 rfl) ?_
            refine lv_iconst (v := 5) hx hb dX13_meant_127 (by decide) ?_
            refine lv_icmp_ne (tgt := 192) hx hb dX13_meant_128 (by decide) (fun c_23 => ?_) (fun c_23 => ?_)
            · skip
              have c_23' : z_2.toInt ≠ 5 := jb_ne (rfl) ((by decide)) c_23
              obtain ⟨q1, q2, m0, q3, q4⟩ := hp0.c012 (by omega) (by omega) (by omega) (by omega) (by omega)
              have o3 := q3.ok
              have o4 := q4.ok
              refine lv_aload_n hx hb dX13_meant_192 rfl (lv_at hl 1 rfl) ?_
              refine lv_aload_n hx hb dX13_meant_193 rfl (lv_at hl 1 rfl) ?_
              refine j7_read hx hb hown hK (C := RX13) (T := TX13) (N := 50) rfl hly_15_2 hlk_19 (hh.at 6 rfl) dX13_meant_194 ?_
              refine lv_iload_n hx hb dX13_meant_197 rfl (lv_at hl 2 rfl) ?_
              refine j7_ialdM hx hb hK hh hB152 1 rfl (by decide) hg_za (x := a1.toInt) (rfl) (by omega) (j := 2) rfl dX13_meant_198 (fun z_24 ez_24 (hz_24 : True) => ?_)
              have hqz_24 : z_24.toInt = jSo C.a (a1.toInt) := by unfold jSo; rw [ez_24]
              refine va_calli (A0 := jA base) (H0 := s.heap) (va_runV (As := [.int z_24]) (rest := []) ⟨hx, hb, hml, hown, hts⟩ (ih (ee - 1) (by omega) G0 s.heap r0 z_24 pn pu py pb zs zn za zb zc zy gq lo m0 C) (cwV 1 hts (jgV (jWr_64 _ (List.mem_of_getElem? (i := 23) rfl)) (jWr_65 _ (List.mem_of_getElem? (i := 0) rfl)) (jWr_65 _ (List.mem_of_getElem? (i := 1) rfl)) (jWr_12 _ (List.mem_of_getElem? (i := 12) rfl)) (jWr_65 _ (List.mem_of_getElem? (i := 2) rfl))) rfl rfl rfl (by decide +kernel) ⟨by rw [← hR]; show (ee - 1 + 40) + 1 ≤ ee + 40; omega, by rw [← hR]; show 8 + (4 + 11) + (40 * (ee - 1) + 1500) ≤ 40 * ee + 1500; omega⟩) ⟨fun a U g mk q => by obtain ⟨q0, q1, q2, qK, q10, q11, q12, q13, q14, q15, q16, q17, q18, q19⟩ := q; exact ⟨q0, q1, q2, jG.calling g mk a qK, q10, q11, q12, q13, q14, q15, q16, q17, q18, q19⟩, hh.recv (C := RX13) (T := TX13) (N := 50) hB15 rfl (by decide) hg_r0 hK, fun U hU hW => ⟨rfl, hU, hh.2.1, hG.step hW hU hh.1, hg_r0, hg_zs, hg_zn, hg_za, hg_zb, hg_zc, hg_zy, (hh.2.2.1.sub (L1 := [(r0, 15, 5, .int pn), (r0, 15, 34, .int pu), (r0, 15, 11, .int py), (r0, 15, 36, .int pb), (r0, 15, 0, .ref zs), (r0, 15, 1, .ref zn), (r0, 15, 2, .ref za), (r0, 15, 3, .ref zb), (r0, 15, 4, .ref zc), (r0, 15, 14, .ref zy)]) [0, 1, 2, 3, 4, 5, 6, 7, 8, 9] rfl), (hh.2.2.2.2.2.2.2.1.sub (L1 := [(zs, 150, 120000, ca 1, C.s), (zn, 151, 120000, ca 1, C.n), (za, 152, 120000, ca 1, C.a), (zb, 153, 120000, ca 1, C.b), (zc, 154, 120000, ca 1, C.c), (zy, 165, 16, ca 1, C.y)]) [0, 1, 2, 3, 4, 5] rfl), ⟨(by first | assumption | (rw [hqz_24]; exact q3) | omega), (by first | omega | rfl | assumption | (rw [hqz_24]; exact q3)), (by first | omega | rfl | assumption | (rw [hqz_24]; exact q3)), (by first | omega | rfl | assumption | (rw [hqz_24]; exact q3)), (by first | omega | rfl | assumption | (rw [hqz_24]; exact q3)), (by first | omega | rfl | assumption | (rw [hqz_24]; exact q3)), (by first | omega | rfl | assumption | (rw [hqz_24]; exact q3)), (by first | omega | rfl | assumption | (rw [hqz_24]; exact q3)), (by first | omega | rfl | assumption | (rw [hqz_24]; exact q3)), (by first | omega | rfl | assumption | (rw [hqz_24]; exact q3)), (by first | omega | rfl | assumption | (rw [hqz_24]; exact q3))⟩⟩⟩ rfl rfl hl.1 rfl (lv_room (Nat.le_of_ble_eq_true rfl)) dX13_meant_199 ⟨Nat.zero_le _, Nat.zero_le _⟩) hh.1 (fun q _ h => h) (fun q h => h) (fun r_26 u_25 t_25 H_25 locs_25 ht_25 hvm_25 hr_26 hb_25 hz_25 hk_25 hS_25 => ?_)
              obtain ⟨qn_25, qu_25, qb_25, D_25⟩ := u_25
              rw [ht_25] at hb_25
              obtain ⟨⟨hb_251, hb_252, hb_253, hb_254, hb_255⟩, hb_256⟩ := hb_25
              have hh_25 : jSt (dC, dI) B base G0 G0 EX13_meant s.heap 0 0 [(r0, 15, 5, .int qn_25), (r0, 15, 34, .int qu_25), (r0, 15, 36, .int qb_25), (r0, 15, 11, .int py), (r0, 15, 0, .ref zs), (r0, 15, 1, .ref zn), (r0, 15, 2, .ref za), (r0, 15, 3, .ref zb), (r0, 15, 4, .ref zc), (r0, 15, 14, .ref zy)] [(zs, 150, 120000, ca 1, D_25.s), (zn, 151, 120000, ca 1, D_25.n), (za, 152, 120000, ca 1, D_25.a), (zb, 153, 120000, ca 1, D_25.b), (zc, 154, 120000, ca 1, D_25.c), (zy, 165, 16, ca 1, D_25.y), (zy, 165, 16, ca 1, C.y)] [] H_25 locs_25 := ((hh.call hb_251 hb_252 hb_253 hb_254 hS_25 rfl (L1 := [(r0, 15, 11, .int py), (r0, 15, 0, .ref zs), (r0, 15, 1, .ref zn), (r0, 15, 2, .ref za), (r0, 15, 3, .ref zb), (r0, 15, 4, .ref zc), (r0, 15, 14, .ref zy)]) [2, 4, 5, 6, 7, 8, 9] rfl rfl (M1 := [(zy, 165, 16, ca 1, C.y)]) [5] rfl rfl (I1 := []) [] rfl rfl).more hb_255).moreM hb_256
              clear hh ht_25 hvm_25 hz_25 hk_25 hS_25 hb_251 hb_252 hb_253 hb_254 hb_255
              clear hb_256
              try simp only at hr_26
              obtain ⟨hr_26_0, hr_26_1, hr_26_2, hr_26_3, hr_26_4, hr_26_5, hr_26_6⟩ := hr_26
              have hs1 := hr_26_4.so (n := a1.toInt) (by omega) (by omega)
              refine lv_istore_n (lv' := [(3, .int r_26), (2, .int z_2), (0, .ref r0), (1, .int a1)]) hx hb dX13_meant_202 rfl hl (by decide) rfl (fun ls hl => ?_)
              refine lv_aload_n hx hb dX13_meant_203 rfl (lv_at hl 2 rfl) ?_
              refine lv_iload_n hx hb dX13_meant_204 rfl (lv_at hl 1 rfl) ?_
              refine lv_iconst (v := 0) hx hb dX13_meant_205 (by decide) ?_
              refine lv_iload_n hx hb dX13_meant_206 rfl (lv_at hl 0 rfl) ?_
              refine lv_aload_n hx hb dX13_meant_207 rfl (lv_at hl 2 rfl) ?_
              refine lv_aload_n hx hb dX13_meant_208 rfl (lv_at hl 2 rfl) ?_
              refine j7_read hx hb hown hK (C := RX13) (T := TX13) (N := 50) rfl hly_15_3 hlk_22 (hh_25.at 7 rfl) dX13_meant_209 ?_
              refine lv_iload_n hx hb dX13_meant_212 rfl (lv_at hl 3 rfl) ?_
              refine j7_ialdM hx hb hK hh_25 hB153 1 rfl (by decide) hg_zb (x := a1.toInt) (rfl) (by omega) (j := 3) rfl dX13_meant_213 (fun z_27 ez_27 (hz_27 : True) => ?_)
              have hqz_27 : z_27.toInt = jSo D_25.b (a1.toInt) := by unfold jSo; rw [ez_27]
              refine va_calli (A0 := jA base) (H0 := s.heap) (va_runV (As := [.int z_27]) (rest := [.int r_26, .int 0, .int z_2, .ref r0]) ⟨hx, hb, hml, hown, hts⟩ (ih (ee - 1) (by omega) G0 H_25 r0 z_27 qn_25 qu_25 py qb_25 zs zn za zb zc zy gq m0 a1.toInt D_25) (cwV 1 hts (jgV (jWr_64 _ (List.mem_of_getElem? (i := 23) rfl)) (jWr_65 _ (List.mem_of_getElem? (i := 0) rfl)) (jWr_65 _ (List.mem_of_getElem? (i := 1) rfl)) (jWr_12 _ (List.mem_of_getElem? (i := 12) rfl)) (jWr_65 _ (List.mem_of_getElem? (i := 2) rfl))) rfl rfl rfl (by decide +kernel) ⟨by rw [← hR]; show (ee - 1 + 40) + 1 ≤ ee + 40; omega, by rw [← hR]; show 8 + (4 + 11) + (40 * (ee - 1) + 1500) ≤ 40 * ee + 1500; omega⟩) ⟨fun a U g mk q => by obtain ⟨q0, q1, q2, qK, q10, q11, q12, q13, q14, q15, q16, q17, q18, q19⟩ := q; exact ⟨q0, q1, q2, jG.calling g mk a qK, q10, q11, q12, q13, q14, q15, q16, q17, q18, q19⟩, hh_25.recv (C := RX13) (T := TX13) (N := 50) hB15 rfl (by decide) hg_r0 hK, fun U hU hW => ⟨rfl, hU, hh_25.2.1, hG.step hW hU hh_25.1, hg_r0, hg_zs, hg_zn, hg_za, hg_zb, hg_zc, hg_zy, (hh_25.2.2.1.sub (L1 := [(r0, 15, 5, .int qn_25), (r0, 15, 34, .int qu_25), (r0, 15, 11, .int py), (r0, 15, 36, .int qb_25), (r0, 15, 0, .ref zs), (r0, 15, 1, .ref zn), (r0, 15, 2, .ref za), (r0, 15, 3, .ref zb), (r0, 15, 4, .ref zc), (r0, 15, 14, .ref zy)]) [0, 1, 3, 2, 4, 5, 6, 7, 8, 9] rfl), (hh_25.2.2.2.2.2.2.2.1.sub (L1 := [(zs, 150, 120000, ca 1, D_25.s), (zn, 151, 120000, ca 1, D_25.n), (za, 152, 120000, ca 1, D_25.a), (zb, 153, 120000, ca 1, D_25.b), (zc, 154, 120000, ca 1, D_25.c), (zy, 165, 16, ca 1, D_25.y)]) [0, 1, 2, 3, 4, 5] rfl), ⟨(by first | assumption | (rw [hqz_27, hs1.2.2.2.1]; exact jRw.ag hr_26_4 q4 (by omega)) | omega), (by first | omega | rfl | assumption | (rw [hqz_27, hs1.2.2.2.1]; exact jRw.ag hr_26_4 q4 (by omega))), (by first | omega | rfl | assumption | (rw [hqz_27, hs1.2.2.2.1]; exact jRw.ag hr_26_4 q4 (by omega))), (by first | omega | rfl | assumption | (rw [hqz_27, hs1.2.2.2.1]; exact jRw.ag hr_26_4 q4 (by omega))), (by first | omega | rfl | assumption | (rw [hqz_27, hs1.2.2.2.1]; exact jRw.ag hr_26_4 q4 (by omega))), (by first | omega | rfl | assumption | (rw [hqz_27, hs1.2.2.2.1]; exact jRw.ag hr_26_4 q4 (by omega))), (by first | omega | rfl | assumption | (rw [hqz_27, hs1.2.2.2.1]; exact jRw.ag hr_26_4 q4 (by omega))), (by first | omega | rfl | assumption | (rw [hqz_27, hs1.2.2.2.1]; exact jRw.ag hr_26_4 q4 (by omega))), (by first | omega | rfl | assumption | (rw [hqz_27, hs1.2.2.2.1]; exact jRw.ag hr_26_4 q4 (by omega))), (by first | omega | rfl | assumption | (rw [hqz_27, hs1.2.2.2.1]; exact jRw.ag hr_26_4 q4 (by omega))), (by first | omega | rfl | assumption | (rw [hqz_27, hs1.2.2.2.1]; exact jRw.ag hr_26_4 q4 (by omega)))⟩⟩⟩ rfl rfl hl.1 rfl (lv_room (Nat.le_of_ble_eq_true rfl)) dX13_meant_214 ⟨Nat.zero_le _, Nat.zero_le _⟩) hh_25.1 (fun q _ h => h) (fun q h => h) (fun r_29 u_28 t_28 H_28 locs_28 ht_28 hvm_28 hr_29 hb_28 hz_28 hk_28 hS_28 => ?_)
              obtain ⟨qn_28, qu_28, qb_28, D_28⟩ := u_28
              rw [ht_28] at hb_28
              obtain ⟨⟨hb_281, hb_282, hb_283, hb_284, hb_285⟩, hb_286⟩ := hb_28
              have hh_28 : jSt (dC, dI) B base G0 G0 EX13_meant s.heap 0 0 [(r0, 15, 5, .int qn_28), (r0, 15, 34, .int qu_28), (r0, 15, 36, .int qb_28), (r0, 15, 11, .int py), (r0, 15, 0, .ref zs), (r0, 15, 1, .ref zn), (r0, 15, 2, .ref za), (r0, 15, 3, .ref zb), (r0, 15, 4, .ref zc), (r0, 15, 14, .ref zy)] [(zs, 150, 120000, ca 1, D_28.s), (zn, 151, 120000, ca 1, D_28.n), (za, 152, 120000, ca 1, D_28.a), (zb, 153, 120000, ca 1, D_28.b), (zc, 154, 120000, ca 1, D_28.c), (zy, 165, 16, ca 1, D_28.y), (zy, 165, 16, ca 1, D_25.y), (zy, 165, 16, ca 1, C.y)] [] H_28 locs_28 := ((hh_25.call hb_281 hb_282 hb_283 hb_284 hS_28 rfl (L1 := [(r0, 15, 11, .int py), (r0, 15, 0, .ref zs), (r0, 15, 1, .ref zn), (r0, 15, 2, .ref za), (r0, 15, 3, .ref zb), (r0, 15, 4, .ref zc), (r0, 15, 14, .ref zy)]) [3, 4, 5, 6, 7, 8, 9] rfl rfl (M1 := [(zy, 165, 16, ca 1, D_25.y), (zy, 165, 16, ca 1, C.y)]) [5, 6] rfl rfl (I1 := []) [] rfl rfl).more hb_285).moreM hb_286
              clear hh_25 ht_28 hvm_28 hz_28 hk_28 hS_28 hb_281 hb_282 hb_283 hb_284 hb_285
              clear hb_286
              try simp only at hr_29
              obtain ⟨hr_29_0, hr_29_1, hr_29_2, hr_29_3, hr_29_4, hr_29_5, hr_29_6⟩ := hr_29
              refine lv_iconst (v := 0) hx hb dX13_meant_217 (by decide) ?_
              refine va_calli (A0 := jA base) (H0 := s.heap) (va_runV (As := [.int z_2, .int 0, .int r_26, .int r_29, .int 0]) (rest := []) ⟨hx, hb, hml, hown, hts⟩ (uX13_nodeK l dC dI ca base B hB hAp hB15 hB150 hB151 hB152 hB153 hB154 hB165 G0 H_28 r0 z_2 0 r_26 r_29 0 qn_28 zs zn za zb zc zy D_28) (cwV 5 hts (jgV (jWr_62 _ (List.mem_of_getElem? (i := 9) rfl)) (jWr_62 _ (List.mem_of_getElem? (i := 10) rfl)) (jWr_62 _ (List.mem_of_getElem? (i := 11) rfl)) (jWr_12 _ (List.mem_of_getElem? (i := 12) rfl)) (jWr_62 _ (List.mem_of_getElem? (i := 12) rfl))) rfl rfl rfl (by decide +kernel) ⟨by rw [← hR]; show (0) + 1 ≤ ee + 40; omega, by rw [← hR]; show 8 + (6 + 11) + (0) ≤ 40 * ee + 1500; omega⟩) ⟨fun a U g mk q => by obtain ⟨q0, q1, q2, qK, q10, q11, q12, q13, q14, q15, q16, q17, q18, q19⟩ := q; exact ⟨q0, q1, q2, jG.calling g mk a qK, q10, q11, q12, q13, q14, q15, q16, q17, q18, q19⟩, hh_28.recv (C := RX13) (T := TX13) (N := 50) hB15 rfl (by decide) hg_r0 hK, fun U hU hW => ⟨rfl, hU, hh_28.2.1, hG.step hW hU hh_28.1, hg_r0, hg_zs, hg_zn, hg_za, hg_zb, hg_zc, hg_zy, (hh_28.2.2.1.sub (L1 := [(r0, 15, 5, .int qn_28), (r0, 15, 0, .ref zs), (r0, 15, 1, .ref zn), (r0, 15, 2, .ref za), (r0, 15, 3, .ref zb), (r0, 15, 4, .ref zc), (r0, 15, 14, .ref zy)]) [0, 4, 5, 6, 7, 8, 9] rfl), (hh_28.2.2.2.2.2.2.2.1.sub (L1 := [(zs, 150, 120000, ca 1, D_28.s), (zn, 151, 120000, ca 1, D_28.n), (za, 152, 120000, ca 1, D_28.a), (zb, 153, 120000, ca 1, D_28.b), (zc, 154, 120000, ca 1, D_28.c), (zy, 165, 16, ca 1, D_28.y)]) [0, 1, 2, 3, 4, 5] rfl), by first | omega | (refine ⟨?_, ?_⟩ <;> (first | omega | rfl | assumption | decide | exact Or.inl rfl | exact Or.inr rfl | (simp only; omega)))⟩⟩ rfl rfl hl.1 rfl (lv_room (Nat.le_of_ble_eq_true rfl)) dX13_meant_218 ⟨Nat.zero_le _, Nat.zero_le _⟩) hh_28.1 (fun q _ h => h) (fun q h => h) (fun r_31 u_30 t_30 H_30 locs_30 ht_30 hvm_30 hr_31 hb_30 hz_30 hk_30 hS_30 => ?_)
              obtain ⟨qn_30, D_30⟩ := u_30
              rw [ht_30] at hb_30
              obtain ⟨⟨hb_301, hb_302, hb_303, hb_304, hb_305⟩, hb_306⟩ := hb_30
              have hh_30 : jSt (dC, dI) B base G0 G0 EX13_meant s.heap 0 0 [(r0, 15, 5, .int qn_30), (r0, 15, 34, .int qu_28), (r0, 15, 36, .int qb_28), (r0, 15, 11, .int py), (r0, 15, 0, .ref zs), (r0, 15, 1, .ref zn), (r0, 15, 2, .ref za), (r0, 15, 3, .ref zb), (r0, 15, 4, .ref zc), (r0, 15, 14, .ref zy)] [(zs, 150, 120000, ca 1, D_30.s), (zn, 151, 120000, ca 1, D_30.n), (za, 152, 120000, ca 1, D_30.a), (zb, 153, 120000, ca 1, D_30.b), (zc, 154, 120000, ca 1, D_30.c), (zy, 165, 16, ca 1, D_30.y), (zy, 165, 16, ca 1, D_28.y), (zy, 165, 16, ca 1, D_25.y), (zy, 165, 16, ca 1, C.y)] [] H_30 locs_30 := ((hh_28.call hb_301 hb_302 hb_303 hb_304 hS_30 rfl (L1 := [(r0, 15, 34, .int qu_28), (r0, 15, 36, .int qb_28), (r0, 15, 11, .int py), (r0, 15, 0, .ref zs), (r0, 15, 1, .ref zn), (r0, 15, 2, .ref za), (r0, 15, 3, .ref zb), (r0, 15, 4, .ref zc), (r0, 15, 14, .ref zy)]) [1, 2, 3, 4, 5, 6, 7, 8, 9] rfl rfl (M1 := [(zy, 165, 16, ca 1, D_28.y), (zy, 165, 16, ca 1, D_25.y), (zy, 165, 16, ca 1, C.y)]) [5, 6, 7] rfl rfl (I1 := []) [] rfl rfl).more hb_305).moreM hb_306
              clear hh_28 ht_30 hvm_30 hz_30 hk_30 hS_30 hb_301 hb_302 hb_303 hb_304 hb_305
              clear hb_306
              try simp only at hr_31
              obtain ⟨hr_31_0, hr_31_1, hr_31_2⟩ := hr_31
              rw [hQ]
              exact W.iret (v := r_31) hx hb hr (fun t ht hW => ⟨⟨r_31, (qn_30, qu_28, qb_28, D_30), rfl, by
    try dsimp only
    refine ⟨by omega, by omega, by omega, by omega, (hr_26_4.tr hr_29_4 (by omega)).tr hr_31_2.1 (by omega), by omega, fun h9 => ?_⟩
    obtain ⟨f0, s0⟩ := hr_26_6 (by omega)
    obtain ⟨f1, s1⟩ := hr_29_6 (by omega)
    have t0 := jsz_ag hr_29_4 f0
    have k := jMk2 (d := ee - 1 + 13) (b := pb.toInt) (Y := py.toInt) hr_31_2 (by omega) (by omega) (by omega) (jFm.ag (M := qn_28.toInt) hr_29_4 (by omega) f0) (f1.mono (Nat.le_refl _) (by omega))
    rw [hr_31_0, hr_31_1]
    exact ⟨k.1.mono (by omega) (Int.le_refl _), by omega⟩, ⟨hh_30.rt (M1 := [(r0, 15, 5, .int qn_30), (r0, 15, 34, .int qu_28), (r0, 15, 36, .int qb_28)]) [0, 1, 2] rfl ht, by rw [ht]; exact hh_30.2.2.2.2.2.2.2.1.sub [0, 1, 2, 3, 4, 5] rfl⟩⟩, by rw [ht]; try exact hh_30.1.1, fun q h9 hq => by rw [ht]; try exact hh_30.1.2.1 q h9 hq⟩) hh_30.1.2.2 dX13_meant_221
            · skip
              have c_23' : z_2.toInt = 5 := jb_ne_n (rfl) ((by decide)) c_23
              exact C131  _ _ hh (by first | omega | (refine ⟨?_, ?_⟩ <;> (first | omega | rfl | assumption | decide | exact Or.inl rfl | exact Or.inr rfl | (simp only; omega)))) _ (lv_sub hl [1, 2, 0] rfl)
        · skip
          have c_5' : z_2.toInt = 6 := jb_ne_n (rfl) ((by decide)) c_5
          obtain ⟨m6, e1, e2, e3, e4⟩ := hp0.c6 (by omega)
          have o2 := e2.ok
          have o4 := e4.ok
          refine lv_aload_n hx hb dX13_meant_90 rfl (lv_at hl 1 rfl) ?_
          refine lv_aload_n hx hb dX13_meant_91 rfl (lv_at hl 1 rfl) ?_
          refine j7_read hx hb hown hK (C := RX13) (T := TX13) (N := 50) rfl hly_15_2 hlk_19 (hh.at 6 rfl) dX13_meant_92 ?_
          refine lv_iload_n hx hb dX13_meant_95 rfl (lv_at hl 2 rfl) ?_
          refine j7_ialdM hx hb hK hh hB152 1 rfl (by decide) hg_za (x := a1.toInt) (rfl) (by omega) (j := 2) rfl dX13_meant_96 (fun z_32 ez_32 (hz_32 : True) => ?_)
          have hqz_32 : z_32.toInt = jSo C.a (a1.toInt) := by unfold jSo; rw [ez_32]
          refine va_calli (A0 := jA base) (H0 := s.heap) (va_runV (As := [.int z_32]) (rest := []) ⟨hx, hb, hml, hown, hts⟩ ((aX13_meantTermW l dC dI ca base B hB hAp hB15 hB103 hB150 hB151 hB152 hB153 hB154 hB158 hB163 hB165 13).2 G0 s.heap r0 z_32 pn pu py pb zs zn za zb zc zy m6 C) (cwV 1 hts (jgV (jWr_65 _ (List.mem_of_getElem? (i := 7) rfl)) (jWr_65 _ (List.mem_of_getElem? (i := 8) rfl)) (jWr_65 _ (List.mem_of_getElem? (i := 9) rfl)) (jWr_12 _ (List.mem_of_getElem? (i := 12) rfl)) (jWr_65 _ (List.mem_of_getElem? (i := 10) rfl))) rfl rfl rfl (by decide +kernel) ⟨by rw [← hR]; show (30) + 1 ≤ ee + 40; omega, by rw [← hR]; show 8 + (4 + 11) + (980) ≤ 40 * ee + 1500; omega⟩) ⟨fun a U g mk q => by obtain ⟨q0, q1, q2, qK, q10, q11, q12, q13, q14, q15, q16, q17, q18, q19⟩ := q; exact ⟨q0, q1, q2, jG.calling g mk a qK, q10, q11, q12, q13, q14, q15, q16, q17, q18, q19⟩, hh.recv (C := RX13) (T := TX13) (N := 50) hB15 rfl (by decide) hg_r0 hK, fun U hU hW => ⟨rfl, hU, hh.2.1, hG.step hW hU hh.1, hg_r0, hg_zs, hg_zn, hg_za, hg_zb, hg_zc, hg_zy, (hh.2.2.1.sub (L1 := [(r0, 15, 5, .int pn), (r0, 15, 34, .int pu), (r0, 15, 11, .int py), (r0, 15, 36, .int pb), (r0, 15, 0, .ref zs), (r0, 15, 1, .ref zn), (r0, 15, 2, .ref za), (r0, 15, 3, .ref zb), (r0, 15, 4, .ref zc), (r0, 15, 14, .ref zy)]) [0, 1, 2, 3, 4, 5, 6, 7, 8, 9] rfl), (hh.2.2.2.2.2.2.2.1.sub (L1 := [(zs, 150, 120000, ca 1, C.s), (zn, 151, 120000, ca 1, C.n), (za, 152, 120000, ca 1, C.a), (zb, 153, 120000, ca 1, C.b), (zc, 154, 120000, ca 1, C.c), (zy, 165, 16, ca 1, C.y)]) [0, 1, 2, 3, 4, 5] rfl), ⟨(by first | assumption | (rw [hqz_32]; exact e2) | (rw [hqz_32]; omega) | omega), (by first | omega | rfl | assumption | (rw [hqz_32]; exact e2) | (rw [hqz_32]; omega)), (by first | omega | rfl | assumption | (rw [hqz_32]; exact e2) | (rw [hqz_32]; omega)), (by first | omega | rfl | assumption | (rw [hqz_32]; exact e2) | (rw [hqz_32]; omega)), (by first | omega | rfl | assumption | (rw [hqz_32]; exact e2) | (rw [hqz_32]; omega)), (by first | omega | rfl | assumption | (rw [hqz_32]; exact e2) | (rw [hqz_32]; omega)), (by first | omega | rfl | assumption | (rw [hqz_32]; exact e2) | (rw [hqz_32]; omega)), (by first | omega | rfl | assumption | (rw [hqz_32]; exact e2) | (rw [hqz_32]; omega)), (by first | omega | rfl | assumption | (rw [hqz_32]; exact e2) | (rw [hqz_32]; omega)), (by first | omega | rfl | assumption | (rw [hqz_32]; exact e2) | (rw [hqz_32]; omega)), (by first | omega | rfl | assumption | (rw [hqz_32]; exact e2) | (rw [hqz_32]; omega))⟩⟩⟩ rfl rfl hl.1 rfl (lv_room (Nat.le_of_ble_eq_true rfl)) dX13_meant_97 ⟨Nat.zero_le _, Nat.zero_le _⟩) hh.1 (fun q _ h => h) (fun q h => h) (fun r_34 u_33 t_33 H_33 locs_33 ht_33 hvm_33 hr_34 hb_33 hz_33 hk_33 hS_33 => ?_)
          obtain ⟨qn_33, qu_33, D_33⟩ := u_33
          rw [ht_33] at hb_33
          obtain ⟨⟨hb_331, hb_332, hb_333, hb_334, hb_335⟩, hb_336⟩ := hb_33
          have hh_33 : jSt (dC, dI) B base G0 G0 EX13_meant s.heap 0 0 [(r0, 15, 5, .int qn_33), (r0, 15, 34, .int qu_33), (r0, 15, 11, .int py), (r0, 15, 36, .int pb), (r0, 15, 0, .ref zs), (r0, 15, 1, .ref zn), (r0, 15, 2, .ref za), (r0, 15, 3, .ref zb), (r0, 15, 4, .ref zc), (r0, 15, 14, .ref zy)] [(zs, 150, 120000, ca 1, D_33.s), (zn, 151, 120000, ca 1, D_33.n), (za, 152, 120000, ca 1, D_33.a), (zb, 153, 120000, ca 1, D_33.b), (zc, 154, 120000, ca 1, D_33.c), (zy, 165, 16, ca 1, D_33.y), (zy, 165, 16, ca 1, C.y)] [] H_33 locs_33 := ((hh.call hb_331 hb_332 hb_333 hb_334 hS_33 rfl (L1 := [(r0, 15, 11, .int py), (r0, 15, 36, .int pb), (r0, 15, 0, .ref zs), (r0, 15, 1, .ref zn), (r0, 15, 2, .ref za), (r0, 15, 3, .ref zb), (r0, 15, 4, .ref zc), (r0, 15, 14, .ref zy)]) [2, 3, 4, 5, 6, 7, 8, 9] rfl rfl (M1 := [(zy, 165, 16, ca 1, C.y)]) [5] rfl rfl (I1 := []) [] rfl rfl).more hb_335).moreM hb_336
          clear hh ht_33 hvm_33 hz_33 hk_33 hS_33 hb_331 hb_332 hb_333 hb_334 hb_335
          clear hb_336
          try simp only at hr_34
          obtain ⟨hr_34_0, hr_34_1, hr_34_2, hr_34_3, hr_34_4, hr_34_5⟩ := hr_34
          rw [hqz_32] at hr_34_1 hr_34_5
          have hs1 := hr_34_4.so (n := a1.toInt) (by omega) (by omega)
          refine lv_istore_n (lv' := [(3, .int r_34), (2, .int z_2), (0, .ref r0), (1, .int a1)]) hx hb dX13_meant_100 rfl hl (by decide) rfl (fun ls hl => ?_)
          refine lv_aload_n hx hb dX13_meant_101 rfl (lv_at hl 2 rfl) ?_
          refine lv_bipush (v := 6) hx hb dX13_meant_102 (by decide) ?_
          refine lv_iconst (v := 0) hx hb dX13_meant_104 (by decide) ?_
          refine lv_iload_n hx hb dX13_meant_105 rfl (lv_at hl 0 rfl) ?_
          refine lv_aload_n hx hb dX13_meant_106 rfl (lv_at hl 2 rfl) ?_
          refine lv_aload_n hx hb dX13_meant_107 rfl (lv_at hl 2 rfl) ?_
          refine j7_read hx hb hown hK (C := RX13) (T := TX13) (N := 50) rfl hly_15_3 hlk_22 (hh_33.at 7 rfl) dX13_meant_108 ?_
          refine lv_iload_n hx hb dX13_meant_111 rfl (lv_at hl 3 rfl) ?_
          refine j7_ialdM hx hb hK hh_33 hB153 1 rfl (by decide) hg_zb (x := a1.toInt) (rfl) (by omega) (j := 3) rfl dX13_meant_112 (fun z_35 ez_35 (hz_35 : True) => ?_)
          have hqz_35 : z_35.toInt = jSo D_33.b (a1.toInt) := by unfold jSo; rw [ez_35]
          refine va_calli (A0 := jA base) (H0 := s.heap) (va_runV (As := [.int z_35]) (rest := [.int r_34, .int 0, .int 6, .ref r0]) ⟨hx, hb, hml, hown, hts⟩ ((aX13_meantTermW l dC dI ca base B hB hAp hB15 hB103 hB150 hB151 hB152 hB153 hB154 hB158 hB163 hB165 13).2 G0 H_33 r0 z_35 qn_33 qu_33 py pb zs zn za zb zc zy a1.toInt D_33) (cwV 1 hts (jgV (jWr_65 _ (List.mem_of_getElem? (i := 7) rfl)) (jWr_65 _ (List.mem_of_getElem? (i := 8) rfl)) (jWr_65 _ (List.mem_of_getElem? (i := 9) rfl)) (jWr_12 _ (List.mem_of_getElem? (i := 12) rfl)) (jWr_65 _ (List.mem_of_getElem? (i := 10) rfl))) rfl rfl rfl (by decide +kernel) ⟨by rw [← hR]; show (30) + 1 ≤ ee + 40; omega, by rw [← hR]; show 8 + (4 + 11) + (980) ≤ 40 * ee + 1500; omega⟩) ⟨fun a U g mk q => by obtain ⟨q0, q1, q2, qK, q10, q11, q12, q13, q14, q15, q16, q17, q18, q19⟩ := q; exact ⟨q0, q1, q2, jG.calling g mk a qK, q10, q11, q12, q13, q14, q15, q16, q17, q18, q19⟩, hh_33.recv (C := RX13) (T := TX13) (N := 50) hB15 rfl (by decide) hg_r0 hK, fun U hU hW => ⟨rfl, hU, hh_33.2.1, hG.step hW hU hh_33.1, hg_r0, hg_zs, hg_zn, hg_za, hg_zb, hg_zc, hg_zy, (hh_33.2.2.1.sub (L1 := [(r0, 15, 5, .int qn_33), (r0, 15, 34, .int qu_33), (r0, 15, 11, .int py), (r0, 15, 36, .int pb), (r0, 15, 0, .ref zs), (r0, 15, 1, .ref zn), (r0, 15, 2, .ref za), (r0, 15, 3, .ref zb), (r0, 15, 4, .ref zc), (r0, 15, 14, .ref zy)]) [0, 1, 2, 3, 4, 5, 6, 7, 8, 9] rfl), (hh_33.2.2.2.2.2.2.2.1.sub (L1 := [(zs, 150, 120000, ca 1, D_33.s), (zn, 151, 120000, ca 1, D_33.n), (za, 152, 120000, ca 1, D_33.a), (zb, 153, 120000, ca 1, D_33.b), (zc, 154, 120000, ca 1, D_33.c), (zy, 165, 16, ca 1, D_33.y)]) [0, 1, 2, 3, 4, 5] rfl), ⟨(by first | assumption | (rw [hqz_35, hs1.2.2.2.1]; exact e4.agK hr_34_4 (by omega)) | (rw [hqz_35, hs1.2.2.2.1]; omega) | omega), (by first | omega | rfl | assumption | (rw [hqz_35, hs1.2.2.2.1]; exact e4.agK hr_34_4 (by omega)) | (rw [hqz_35, hs1.2.2.2.1]; omega)), (by first | omega | rfl | assumption | (rw [hqz_35, hs1.2.2.2.1]; exact e4.agK hr_34_4 (by omega)) | (rw [hqz_35, hs1.2.2.2.1]; omega)), (by first | omega | rfl | assumption | (rw [hqz_35, hs1.2.2.2.1]; exact e4.agK hr_34_4 (by omega)) | (rw [hqz_35, hs1.2.2.2.1]; omega)), (by first | omega | rfl | assumption | (rw [hqz_35, hs1.2.2.2.1]; exact e4.agK hr_34_4 (by omega)) | (rw [hqz_35, hs1.2.2.2.1]; omega)), (by first | omega | rfl | assumption | (rw [hqz_35, hs1.2.2.2.1]; exact e4.agK hr_34_4 (by omega)) | (rw [hqz_35, hs1.2.2.2.1]; omega)), (by first | omega | rfl | assumption | (rw [hqz_35, hs1.2.2.2.1]; exact e4.agK hr_34_4 (by omega)) | (rw [hqz_35, hs1.2.2.2.1]; omega)), (by first | omega | rfl | assumption | (rw [hqz_35, hs1.2.2.2.1]; exact e4.agK hr_34_4 (by omega)) | (rw [hqz_35, hs1.2.2.2.1]; omega)), (by first | omega | rfl | assumption | (rw [hqz_35, hs1.2.2.2.1]; exact e4.agK hr_34_4 (by omega)) | (rw [hqz_35, hs1.2.2.2.1]; omega)), (by first | omega | rfl | assumption | (rw [hqz_35, hs1.2.2.2.1]; exact e4.agK hr_34_4 (by omega)) | (rw [hqz_35, hs1.2.2.2.1]; omega)), (by first | omega | rfl | assumption | (rw [hqz_35, hs1.2.2.2.1]; exact e4.agK hr_34_4 (by omega)) | (rw [hqz_35, hs1.2.2.2.1]; omega))⟩⟩⟩ rfl rfl hl.1 rfl (lv_room (Nat.le_of_ble_eq_true rfl)) dX13_meant_113 ⟨Nat.zero_le _, Nat.zero_le _⟩) hh_33.1 (fun q _ h => h) (fun q h => h) (fun r_37 u_36 t_36 H_36 locs_36 ht_36 hvm_36 hr_37 hb_36 hz_36 hk_36 hS_36 => ?_)
          obtain ⟨qn_36, qu_36, D_36⟩ := u_36
          rw [ht_36] at hb_36
          obtain ⟨⟨hb_361, hb_362, hb_363, hb_364, hb_365⟩, hb_366⟩ := hb_36
          have hh_36 : jSt (dC, dI) B base G0 G0 EX13_meant s.heap 0 0 [(r0, 15, 5, .int qn_36), (r0, 15, 34, .int qu_36), (r0, 15, 11, .int py), (r0, 15, 36, .int pb), (r0, 15, 0, .ref zs), (r0, 15, 1, .ref zn), (r0, 15, 2, .ref za), (r0, 15, 3, .ref zb), (r0, 15, 4, .ref zc), (r0, 15, 14, .ref zy)] [(zs, 150, 120000, ca 1, D_36.s), (zn, 151, 120000, ca 1, D_36.n), (za, 152, 120000, ca 1, D_36.a), (zb, 153, 120000, ca 1, D_36.b), (zc, 154, 120000, ca 1, D_36.c), (zy, 165, 16, ca 1, D_36.y), (zy, 165, 16, ca 1, D_33.y), (zy, 165, 16, ca 1, C.y)] [] H_36 locs_36 := ((hh_33.call hb_361 hb_362 hb_363 hb_364 hS_36 rfl (L1 := [(r0, 15, 11, .int py), (r0, 15, 36, .int pb), (r0, 15, 0, .ref zs), (r0, 15, 1, .ref zn), (r0, 15, 2, .ref za), (r0, 15, 3, .ref zb), (r0, 15, 4, .ref zc), (r0, 15, 14, .ref zy)]) [2, 3, 4, 5, 6, 7, 8, 9] rfl rfl (M1 := [(zy, 165, 16, ca 1, D_33.y), (zy, 165, 16, ca 1, C.y)]) [5, 6] rfl rfl (I1 := []) [] rfl rfl).more hb_365).moreM hb_366
          clear hh_33 ht_36 hvm_36 hz_36 hk_36 hS_36 hb_361 hb_362 hb_363 hb_364 hb_365
          clear hb_366
          try simp only at hr_37
          obtain ⟨hr_37_0, hr_37_1, hr_37_2, hr_37_3, hr_37_4, hr_37_5⟩ := hr_37
          rw [hqz_35, hs1.2.2.2.1] at hr_37_1 hr_37_5
          refine lv_iconst (v := 0) hx hb dX13_meant_116 (by decide) ?_
          refine va_calli (A0 := jA base) (H0 := s.heap) (va_runV (As := [.int 6, .int 0, .int r_34, .int r_37, .int 0]) (rest := []) ⟨hx, hb, hml, hown, hts⟩ (uX13_nodeK l dC dI ca base B hB hAp hB15 hB150 hB151 hB152 hB153 hB154 hB165 G0 H_36 r0 6 0 r_34 r_37 0 qn_36 zs zn za zb zc zy D_36) (cwV 5 hts (jgV (jWr_62 _ (List.mem_of_getElem? (i := 9) rfl)) (jWr_62 _ (List.mem_of_getElem? (i := 10) rfl)) (jWr_62 _ (List.mem_of_getElem? (i := 11) rfl)) (jWr_12 _ (List.mem_of_getElem? (i := 12) rfl)) (jWr_62 _ (List.mem_of_getElem? (i := 12) rfl))) rfl rfl rfl (by decide +kernel) ⟨by rw [← hR]; show (0) + 1 ≤ ee + 40; omega, by rw [← hR]; show 8 + (6 + 11) + (0) ≤ 40 * ee + 1500; omega⟩) ⟨fun a U g mk q => by obtain ⟨q0, q1, q2, qK, q10, q11, q12, q13, q14, q15, q16, q17, q18, q19⟩ := q; exact ⟨q0, q1, q2, jG.calling g mk a qK, q10, q11, q12, q13, q14, q15, q16, q17, q18, q19⟩, hh_36.recv (C := RX13) (T := TX13) (N := 50) hB15 rfl (by decide) hg_r0 hK, fun U hU hW => ⟨rfl, hU, hh_36.2.1, hG.step hW hU hh_36.1, hg_r0, hg_zs, hg_zn, hg_za, hg_zb, hg_zc, hg_zy, (hh_36.2.2.1.sub (L1 := [(r0, 15, 5, .int qn_36), (r0, 15, 0, .ref zs), (r0, 15, 1, .ref zn), (r0, 15, 2, .ref za), (r0, 15, 3, .ref zb), (r0, 15, 4, .ref zc), (r0, 15, 14, .ref zy)]) [0, 4, 5, 6, 7, 8, 9] rfl), (hh_36.2.2.2.2.2.2.2.1.sub (L1 := [(zs, 150, 120000, ca 1, D_36.s), (zn, 151, 120000, ca 1, D_36.n), (za, 152, 120000, ca 1, D_36.a), (zb, 153, 120000, ca 1, D_36.b), (zc, 154, 120000, ca 1, D_36.c), (zy, 165, 16, ca 1, D_36.y)]) [0, 1, 2, 3, 4, 5] rfl), by first | omega | (refine ⟨?_, ?_⟩ <;> (first | omega | rfl | assumption | decide | exact Or.inl rfl | exact Or.inr rfl | (simp only; omega)))⟩⟩ rfl rfl hl.1 rfl (lv_room (Nat.le_of_ble_eq_true rfl)) dX13_meant_117 ⟨Nat.zero_le _, Nat.zero_le _⟩) hh_36.1 (fun q _ h => h) (fun q h => h) (fun r_39 u_38 t_38 H_38 locs_38 ht_38 hvm_38 hr_39 hb_38 hz_38 hk_38 hS_38 => ?_)
          obtain ⟨qn_38, D_38⟩ := u_38
          rw [ht_38] at hb_38
          obtain ⟨⟨hb_381, hb_382, hb_383, hb_384, hb_385⟩, hb_386⟩ := hb_38
          have hh_38 : jSt (dC, dI) B base G0 G0 EX13_meant s.heap 0 0 [(r0, 15, 5, .int qn_38), (r0, 15, 34, .int qu_36), (r0, 15, 11, .int py), (r0, 15, 36, .int pb), (r0, 15, 0, .ref zs), (r0, 15, 1, .ref zn), (r0, 15, 2, .ref za), (r0, 15, 3, .ref zb), (r0, 15, 4, .ref zc), (r0, 15, 14, .ref zy)] [(zs, 150, 120000, ca 1, D_38.s), (zn, 151, 120000, ca 1, D_38.n), (za, 152, 120000, ca 1, D_38.a), (zb, 153, 120000, ca 1, D_38.b), (zc, 154, 120000, ca 1, D_38.c), (zy, 165, 16, ca 1, D_38.y), (zy, 165, 16, ca 1, D_36.y), (zy, 165, 16, ca 1, D_33.y), (zy, 165, 16, ca 1, C.y)] [] H_38 locs_38 := ((hh_36.call hb_381 hb_382 hb_383 hb_384 hS_38 rfl (L1 := [(r0, 15, 34, .int qu_36), (r0, 15, 11, .int py), (r0, 15, 36, .int pb), (r0, 15, 0, .ref zs), (r0, 15, 1, .ref zn), (r0, 15, 2, .ref za), (r0, 15, 3, .ref zb), (r0, 15, 4, .ref zc), (r0, 15, 14, .ref zy)]) [1, 2, 3, 4, 5, 6, 7, 8, 9] rfl rfl (M1 := [(zy, 165, 16, ca 1, D_36.y), (zy, 165, 16, ca 1, D_33.y), (zy, 165, 16, ca 1, C.y)]) [5, 6, 7] rfl rfl (I1 := []) [] rfl rfl).more hb_385).moreM hb_386
          clear hh_36 ht_38 hvm_38 hz_38 hk_38 hS_38 hb_381 hb_382 hb_383 hb_384 hb_385
          clear hb_386
          try simp only at hr_39
          obtain ⟨hr_39_0, hr_39_1, hr_39_2⟩ := hr_39
          rw [hQ]
          exact W.iret (v := r_39) hx hb hr (fun t ht hW => ⟨⟨r_39, (qn_38, qu_36, pb, D_38), rfl, by
    try dsimp only
    refine ⟨by omega, by omega, by omega, by omega, (hr_34_4.tr hr_37_4 (by omega)).tr hr_39_2.1 (by omega), by omega, fun h9 => ?_⟩
    obtain ⟨f0, s0⟩ := hr_34_5 (by omega)
    obtain ⟨f1, s1⟩ := hr_37_5 (by omega)
    have t0 := jsz_ag hr_37_4 f0
    have k := jMk2 (d := 13) (b := pb.toInt) (Y := py.toInt) hr_39_2 (by omega) (by omega) (by omega) (jFm.ag (M := qn_36.toInt) hr_37_4 (by omega) f0) f1
    rw [hr_39_0, hr_39_1]
    exact ⟨k.1.mono (by omega) (Int.le_refl _), by omega⟩, ⟨hh_38.rt (M1 := [(r0, 15, 5, .int qn_38), (r0, 15, 34, .int qu_36), (r0, 15, 36, .int pb)]) [0, 1, 3] rfl ht, by rw [ht]; exact hh_38.2.2.2.2.2.2.2.1.sub [0, 1, 2, 3, 4, 5] rfl⟩⟩, by rw [ht]; try exact hh_38.1.1, fun q h9 hq => by rw [ht]; try exact hh_38.1.2.1 q h9 hq⟩) hh_38.1.2.2 dX13_meant_120
      · skip
        have c_4' : z_2.toInt = 3 := jb_ne_n (rfl) ((by decide)) c_4
        refine lv_iload_n hx hb dX13_meant_82 rfl (lv_at hl 2 rfl) ?_
        rw [hQ]
        exact W.iret (v := a1) hx hb hr (fun t ht hW => ⟨⟨a1, (pn, pu, pb, C), rfl, by (try dsimp only); refine ⟨by omega, by omega, by omega, by omega, jAgK.rf _ _, by omega, fun _ => ?_⟩; have k := hp0.f3 (Y := py.toInt) (b := pb.toInt) (N := pn.toInt) (d := ee + 13) (by omega) (by omega) (by omega); exact ⟨k.1, by omega⟩, ⟨hh.rt (M1 := [(r0, 15, 5, .int pn), (r0, 15, 34, .int pu), (r0, 15, 36, .int pb)]) [0, 1, 3] rfl ht, by rw [ht]; exact hh.2.2.2.2.2.2.2.1.sub [0, 1, 2, 3, 4, 5] rfl⟩⟩, by rw [ht]; try exact hh.1.1, fun q h9 hq => by rw [ht]; try exact hh.1.2.1 q h9 hq⟩) hh.1.2.2 dX13_meant_83
    · skip
      have c_3' : z_2.toInt = 11 := jb_ne_n (rfl) ((by decide)) c_3
      have c11 := hp0.c11 (by omega)
      have o11 := c11.ok
      refine lv_aload_n hx hb dX13_meant_22 rfl (lv_at hl 1 rfl) ?_
      refine lv_aload_n hx hb dX13_meant_23 rfl (lv_at hl 1 rfl) ?_
      refine j7_read hx hb hown hK (C := RX13) (T := TX13) (N := 50) rfl hly_15_1 hlk_16 (hh.at 5 rfl) dX13_meant_24 ?_
      refine lv_iload_n hx hb dX13_meant_27 rfl (lv_at hl 2 rfl) ?_
      refine j7_ialdM hx hb hK hh hB151 1 rfl (by decide) hg_zn (x := a1.toInt) (rfl) (by omega) (j := 1) rfl dX13_meant_28 (fun z_40 ez_40 (hz_40 : True) => ?_)
      have hqz_40 : z_40.toInt = jSo C.n (a1.toInt) := by unfold jSo; rw [ez_40]
      refine va_calli (A0 := jA base) (H0 := s.heap) (va_runV (As := [.int z_40]) (rest := []) ⟨hx, hb, hml, hown, hts⟩ (uX13_symbolOfK l dC dI ca base B hB hAp hB15 hB163 G0 s.heap r0 z_40 py) (cwV 1 hts (jgV (jWr_64 _ (List.mem_of_getElem? (i := 3) rfl)) (jWr_64 _ (List.mem_of_getElem? (i := 4) rfl)) (jWr_64 _ (List.mem_of_getElem? (i := 5) rfl)) (jWr_12 _ (List.mem_of_getElem? (i := 12) rfl)) (jWr_64 _ (List.mem_of_getElem? (i := 6) rfl))) rfl rfl rfl (by decide +kernel) ⟨by rw [← hR]; show (0) + 1 ≤ ee + 40; omega, by rw [← hR]; show 8 + (3 + 11) + (0) ≤ 40 * ee + 1500; omega⟩) ⟨fun a U g mk q => by obtain ⟨q0, q1, q2, qK, q10, q11, q12⟩ := q; exact ⟨q0, q1, q2, jG.calling g mk a qK, q10, q11, q12⟩, hh.recv (C := RX13) (T := TX13) (N := 50) hB15 rfl (by decide) hg_r0 hK, fun U hU hW => ⟨rfl, hU, hh.2.1, hG.step hW hU hh.1, hg_r0, (hh.2.2.1.sub (L1 := [(r0, 15, 11, .int py)]) [2] rfl), by first | omega | (refine ⟨?_, ?_⟩ <;> (first | omega | rfl | assumption | decide | exact Or.inl rfl | exact Or.inr rfl | (simp only; omega)))⟩⟩ rfl rfl hl.1 rfl (lv_room (Nat.le_of_ble_eq_true rfl)) dX13_meant_29 ⟨Nat.zero_le _, Nat.zero_le _⟩) hh.1 (fun q _ h => h) (fun q h => h) (fun r_42 u_41 t_41 H_41 locs_41 ht_41 hvm_41 hr_42 hb_41 hz_41 hk_41 hS_41 => ?_)
      rw [ht_41] at hb_41
      obtain ⟨hb_411, hb_412, hb_413, hb_414, hb_415⟩ := hb_41
      have hh_41 : jSt (dC, dI) B base G0 G0 EX13_meant s.heap 0 0 [(r0, 15, 5, .int pn), (r0, 15, 34, .int pu), (r0, 15, 11, .int py), (r0, 15, 36, .int pb), (r0, 15, 0, .ref zs), (r0, 15, 1, .ref zn), (r0, 15, 2, .ref za), (r0, 15, 3, .ref zb), (r0, 15, 4, .ref zc), (r0, 15, 14, .ref zy)] [(zs, 150, 120000, ca 1, C.s), (zn, 151, 120000, ca 1, C.n), (za, 152, 120000, ca 1, C.a), (zb, 153, 120000, ca 1, C.b), (zc, 154, 120000, ca 1, C.c), (zy, 165, 16, ca 1, C.y)] [] H_41 locs_41 := ((hh.call hb_411 hb_412 hb_413 hb_414 hS_41 rfl (L1 := [(r0, 15, 5, .int pn), (r0, 15, 34, .int pu), (r0, 15, 11, .int py), (r0, 15, 36, .int pb), (r0, 15, 0, .ref zs), (r0, 15, 1, .ref zn), (r0, 15, 2, .ref za), (r0, 15, 3, .ref zb), (r0, 15, 4, .ref zc), (r0, 15, 14, .ref zy)]) [0, 1, 2, 3, 4, 5, 6, 7, 8, 9] rfl rfl (M1 := [(zs, 150, 120000, ca 1, C.s), (zn, 151, 120000, ca 1, C.n), (za, 152, 120000, ca 1, C.a), (zb, 153, 120000, ca 1, C.b), (zc, 154, 120000, ca 1, C.c), (zy, 165, 16, ca 1, C.y)]) [0, 1, 2, 3, 4, 5] rfl rfl (I1 := []) [] rfl rfl).more hb_415)
      clear hh ht_41 hvm_41 hz_41 hk_41 hS_41 hb_411 hb_412 hb_413 hb_414 hb_415
      obtain ⟨hr_42_0, hr_42_1⟩ := hr_42
      refine lv_istore_n (lv' := [(3, .int r_42), (2, .int z_2), (0, .ref r0), (1, .int a1)]) hx hb dX13_meant_32 rfl hl (by decide) rfl (fun ls hl => ?_)
      refine lv_iload_n hx hb dX13_meant_33 rfl (lv_at hl 0 rfl) ?_
      refine lv_if_lt (tgt := 61) hx hb dX13_meant_34 (by decide) (fun c_43 => ?_) (fun c_43 => ?_)
      · skip
        have c_43' : r_42.toInt < 0 := jb_lt (rfl) ((by decide)) c_43
        refine lv_aload_n hx hb dX13_meant_61 rfl (lv_at hl 2 rfl) ?_
        refine lv_iconst (v := 5) hx hb dX13_meant_62 (by decide) ?_
        refine va_callv (A0 := jA base) (H0 := s.heap) (va_runV (As := [.int 5]) (rest := []) ⟨hx, hb, hml, hown, hts⟩ (uX13_failsK l dC dI ca base B hB hAp hB15 G0 H_41 r0 5 pu) (cwV 1 hts (jgV (jWr_64 _ (List.mem_of_getElem? (i := 19) rfl)) (jWr_64 _ (List.mem_of_getElem? (i := 20) rfl)) (jWr_64 _ (List.mem_of_getElem? (i := 21) rfl)) (jWr_12 _ (List.mem_of_getElem? (i := 12) rfl)) (jWr_64 _ (List.mem_of_getElem? (i := 22) rfl))) rfl rfl rfl (by decide +kernel) ⟨by rw [← hR]; show (0) + 1 ≤ ee + 40; omega, by rw [← hR]; show 8 + (2 + 11) + (0) ≤ 40 * ee + 1500; omega⟩) ⟨fun a U g mk q => by obtain ⟨q0, q1, q2, qK, q10, q11, q12⟩ := q; exact ⟨q0, q1, q2, jG.calling g mk a qK, q10, q11, q12⟩, hh_41.recv (C := RX13) (T := TX13) (N := 50) hB15 rfl (by decide) hg_r0 hK, fun U hU hW => ⟨rfl, hU, hh_41.2.1, hG.step hW hU hh_41.1, hg_r0, (hh_41.2.2.1.sub (L1 := [(r0, 15, 34, .int pu)]) [1] rfl), by first | omega | (refine ⟨?_, ?_, ?_, ?_⟩ <;> (first | omega | rfl | assumption | decide | exact Or.inl rfl | exact Or.inr rfl | (simp only; omega)))⟩⟩ rfl rfl hl.1 rfl (lv_room (Nat.le_of_ble_eq_true rfl)) dX13_meant_63 ⟨Nat.zero_le _, Nat.zero_le _⟩) hh_41.1 (fun q _ h => h) (fun q h => h) (fun u_44 t_44 H_44 locs_44 ht_44 hvm_44 hr_45 hb_44 hz_44 hk_44 hS_44 => ?_)
        obtain ⟨qu_44, rfl⟩ : ∃ z, z = u_44 := ⟨_, rfl⟩
        rw [ht_44] at hb_44
        obtain ⟨hb_441, hb_442, hb_443, hb_444, hb_445⟩ := hb_44
        have hh_44 : jSt (dC, dI) B base G0 G0 EX13_meant s.heap 0 0 [(r0, 15, 34, .int qu_44), (r0, 15, 5, .int pn), (r0, 15, 11, .int py), (r0, 15, 36, .int pb), (r0, 15, 0, .ref zs), (r0, 15, 1, .ref zn), (r0, 15, 2, .ref za), (r0, 15, 3, .ref zb), (r0, 15, 4, .ref zc), (r0, 15, 14, .ref zy)] [(zs, 150, 120000, ca 1, C.s), (zn, 151, 120000, ca 1, C.n), (za, 152, 120000, ca 1, C.a), (zb, 153, 120000, ca 1, C.b), (zc, 154, 120000, ca 1, C.c), (zy, 165, 16, ca 1, C.y)] [] H_44 locs_44 := ((hh_41.call hb_441 hb_442 hb_443 hb_444 hS_44 rfl (L1 := [(r0, 15, 5, .int pn), (r0, 15, 11, .int py), (r0, 15, 36, .int pb), (r0, 15, 0, .ref zs), (r0, 15, 1, .ref zn), (r0, 15, 2, .ref za), (r0, 15, 3, .ref zb), (r0, 15, 4, .ref zc), (r0, 15, 14, .ref zy)]) [0, 2, 3, 4, 5, 6, 7, 8, 9] rfl rfl (M1 := [(zs, 150, 120000, ca 1, C.s), (zn, 151, 120000, ca 1, C.n), (za, 152, 120000, ca 1, C.a), (zb, 153, 120000, ca 1, C.b), (zc, 154, 120000, ca 1, C.c), (zy, 165, 16, ca 1, C.y)]) [0, 1, 2, 3, 4, 5] rfl rfl (I1 := []) [] rfl rfl).more hb_445)
        clear hh_41 ht_44 hvm_44 hz_44 hk_44 hS_44 hb_441 hb_442 hb_443 hb_444 hb_445
        obtain ⟨hr_45_0, hr_45_1, hr_45_2, hr_45_3⟩ := hr_45
        refine lv_iconst (v := 0) hx hb dX13_meant_66 (by decide) ?_
        rw [hQ]
        exact W.iret (v := 0) hx hb hr (fun t ht hW => ⟨⟨0, (pn, qu_44, pb, C), rfl, by (try dsimp only); refine ⟨by omega, by omega, by omega, by omega, jAgK.rf _ _, by omega, fun h9 => absurd h9 (by omega)⟩, ⟨hh_44.rt (M1 := [(r0, 15, 5, .int pn), (r0, 15, 34, .int qu_44), (r0, 15, 36, .int pb)]) [1, 0, 3] rfl ht, by rw [ht]; exact hh_44.2.2.2.2.2.2.2.1.sub [0, 1, 2, 3, 4, 5] rfl⟩⟩, by rw [ht]; try exact hh_44.1.1, fun q h9 hq => by rw [ht]; try exact hh_44.1.2.1 q h9 hq⟩) hh_44.1.2.2 dX13_meant_67
      · skip
        have c_43' : r_42.toInt ≥ 0 := jb_lt_n (rfl) ((by decide)) c_43
        refine lv_aload_n hx hb dX13_meant_37 rfl (lv_at hl 2 rfl) ?_
        obtain ⟨v_46, hv_46, hh_47⟩ := hh_41.pin (C := RX13) (T := TX13) (N := 50) hB15 rfl (by decide) hg_r0 (i := 13) (by decide) rfl
        clear hh_41
        obtain ⟨predicate_48, rfl, hg_predicate_48⟩ := hv_46
        refine j7_read hx hb hown hK (C := RX13) (T := TX13) (N := 50) rfl hly_15_13 hlk_40 (hh_47.at 0 rfl) dX13_meant_38 ?_
        refine lv_iload_n hx hb dX13_meant_41 rfl (lv_at hl 0 rfl) ?_
        refine j7_zald hx hb hK hh_47 hB103 3 rfl (by decide) hg_predicate_48 (x := r_42.toInt) (rfl) (by omega) dX13_meant_42 (fun z_49 (hz_49 : (z_49 = 0 ∨ z_49 = 1)) => ?_)
        have hz_49' := jb_01 hz_49
        refine lv_if_eq (tgt := 61) hx hb dX13_meant_43 (by decide) (fun c_50 => ?_) (fun c_50 => ?_)
        · skip
          have c_50' : z_49.toInt = 0 := jb_eq (rfl) ((by decide)) c_50
          refine lv_aload_n hx hb dX13_meant_61 rfl (lv_at hl 2 rfl) ?_
          refine lv_iconst (v := 5) hx hb dX13_meant_62 (by decide) ?_
          refine va_callv (A0 := jA base) (H0 := s.heap) (va_runV (As := [.int 5]) (rest := []) ⟨hx, hb, hml, hown, hts⟩ (uX13_failsK l dC dI ca base B hB hAp hB15 G0 H_41 r0 5 pu) (cwV 1 hts (jgV (jWr_64 _ (List.mem_of_getElem? (i := 19) rfl)) (jWr_64 _ (List.mem_of_getElem? (i := 20) rfl)) (jWr_64 _ (List.mem_of_getElem? (i := 21) rfl)) (jWr_12 _ (List.mem_of_getElem? (i := 12) rfl)) (jWr_64 _ (List.mem_of_getElem? (i := 22) rfl))) rfl rfl rfl (by decide +kernel) ⟨by rw [← hR]; show (0) + 1 ≤ ee + 40; omega, by rw [← hR]; show 8 + (2 + 11) + (0) ≤ 40 * ee + 1500; omega⟩) ⟨fun a U g mk q => by obtain ⟨q0, q1, q2, qK, q10, q11, q12⟩ := q; exact ⟨q0, q1, q2, jG.calling g mk a qK, q10, q11, q12⟩, hh_47.recv (C := RX13) (T := TX13) (N := 50) hB15 rfl (by decide) hg_r0 hK, fun U hU hW => ⟨rfl, hU, hh_47.2.1, hG.step hW hU hh_47.1, hg_r0, (hh_47.2.2.1.sub (L1 := [(r0, 15, 34, .int pu)]) [2] rfl), by first | omega | (refine ⟨?_, ?_, ?_, ?_⟩ <;> (first | omega | rfl | assumption | decide | exact Or.inl rfl | exact Or.inr rfl | (simp only; omega)))⟩⟩ rfl rfl hl.1 rfl (lv_room (Nat.le_of_ble_eq_true rfl)) dX13_meant_63 ⟨Nat.zero_le _, Nat.zero_le _⟩) hh_47.1 (fun q _ h => h) (fun q h => h) (fun u_51 t_51 H_51 locs_51 ht_51 hvm_51 hr_52 hb_51 hz_51 hk_51 hS_51 => ?_)
          obtain ⟨qu_51, rfl⟩ : ∃ z, z = u_51 := ⟨_, rfl⟩
          rw [ht_51] at hb_51
          obtain ⟨hb_511, hb_512, hb_513, hb_514, hb_515⟩ := hb_51
          have hh_51 : jSt (dC, dI) B base G0 G0 EX13_meant s.heap 0 0 [(r0, 15, 34, .int qu_51), (r0, 15, 13, .ref predicate_48), (r0, 15, 5, .int pn), (r0, 15, 11, .int py), (r0, 15, 36, .int pb), (r0, 15, 0, .ref zs), (r0, 15, 1, .ref zn), (r0, 15, 2, .ref za), (r0, 15, 3, .ref zb), (r0, 15, 4, .ref zc), (r0, 15, 14, .ref zy)] [(zs, 150, 120000, ca 1, C.s), (zn, 151, 120000, ca 1, C.n), (za, 152, 120000, ca 1, C.a), (zb, 153, 120000, ca 1, C.b), (zc, 154, 120000, ca 1, C.c), (zy, 165, 16, ca 1, C.y)] [] H_51 locs_51 := ((hh_47.call hb_511 hb_512 hb_513 hb_514 hS_51 rfl (L1 := [(r0, 15, 13, .ref predicate_48), (r0, 15, 5, .int pn), (r0, 15, 11, .int py), (r0, 15, 36, .int pb), (r0, 15, 0, .ref zs), (r0, 15, 1, .ref zn), (r0, 15, 2, .ref za), (r0, 15, 3, .ref zb), (r0, 15, 4, .ref zc), (r0, 15, 14, .ref zy)]) [0, 1, 3, 4, 5, 6, 7, 8, 9, 10] rfl rfl (M1 := [(zs, 150, 120000, ca 1, C.s), (zn, 151, 120000, ca 1, C.n), (za, 152, 120000, ca 1, C.a), (zb, 153, 120000, ca 1, C.b), (zc, 154, 120000, ca 1, C.c), (zy, 165, 16, ca 1, C.y)]) [0, 1, 2, 3, 4, 5] rfl rfl (I1 := []) [] rfl rfl).more hb_515)
          clear hh_47 ht_51 hvm_51 hz_51 hk_51 hS_51 hb_511 hb_512 hb_513 hb_514 hb_515
          obtain ⟨hr_52_0, hr_52_1, hr_52_2, hr_52_3⟩ := hr_52
          refine lv_iconst (v := 0) hx hb dX13_meant_66 (by decide) ?_
          rw [hQ]
          exact W.iret (v := 0) hx hb hr (fun t ht hW => ⟨⟨0, (pn, qu_51, pb, C), rfl, by (try dsimp only); refine ⟨by omega, by omega, by omega, by omega, jAgK.rf _ _, by omega, fun h9 => absurd h9 (by omega)⟩, ⟨hh_51.rt (M1 := [(r0, 15, 5, .int pn), (r0, 15, 34, .int qu_51), (r0, 15, 36, .int pb)]) [2, 0, 4] rfl ht, by rw [ht]; exact hh_51.2.2.2.2.2.2.2.1.sub [0, 1, 2, 3, 4, 5] rfl⟩⟩, by rw [ht]; try exact hh_51.1.1, fun q h9 hq => by rw [ht]; try exact hh_51.1.2.1 q h9 hq⟩) hh_51.1.2.2 dX13_meant_67
        · skip
          have c_50' : z_49.toInt ≠ 0 := jb_eq_n (rfl) ((by decide)) c_50
          refine lv_aload_n hx hb dX13_meant_46 rfl (lv_at hl 2 rfl) ?_
          refine j7_read hx hb hown hK (C := RX13) (T := TX13) (N := 50) rfl hly_15_14 hlk_44 (hh_47.at 10 rfl) dX13_meant_47 ?_
          refine lv_iload_n hx hb dX13_meant_50 rfl (lv_at hl 0 rfl) ?_
          refine j7_ialdM hx hb hK hh_47 hB165 1 rfl (by decide) hg_zy (x := r_42.toInt) (rfl) (by omega) (j := 5) rfl dX13_meant_51 (fun z_53 ez_53 (hz_53 : 0 ≤ z_53.toInt ∧ z_53.toInt ≤ 3) => ?_)
          have hqz_53 : z_53.toInt = jSo C.y (r_42.toInt) := by unfold jSo; rw [ez_53]
          refine lv_aload_n hx hb dX13_meant_52 rfl (lv_at hl 2 rfl) ?_
          refine j7_read hx hb hown hK (C := RX13) (T := TX13) (N := 50) rfl hly_15_4 hlk_25 (hh_47.at 9 rfl) dX13_meant_53 ?_
          refine lv_iload_n hx hb dX13_meant_56 rfl (lv_at hl 3 rfl) ?_
          refine j7_ialdM hx hb hK hh_47 hB154 1 rfl (by decide) hg_zc (x := a1.toInt) (rfl) (by omega) (j := 4) rfl dX13_meant_57 (fun z_54 ez_54 (hz_54 : True) => ?_)
          have hqz_54 : z_54.toInt = jSo C.c (a1.toInt) := by unfold jSo; rw [ez_54]
          refine lv_icmp_eq (tgt := 68) hx hb dX13_meant_58 (by decide) (fun c_55 => ?_) (fun c_55 => ?_)
          · skip
            have c_55' : z_53.toInt = z_54.toInt := jb_eq (rfl) (rfl) c_55
            refine lv_aload_n hx hb dX13_meant_68 rfl (lv_at hl 2 rfl) ?_
            refine lv_bipush (v := 7) hx hb dX13_meant_69 (by decide) ?_
            refine lv_iload_n hx hb dX13_meant_71 rfl (lv_at hl 0 rfl) ?_
            refine lv_iload_n hx hb dX13_meant_72 rfl (lv_at hl 3 rfl) ?_
            refine va_calli (A0 := jA base) (H0 := s.heap) (va_runV (As := [.int 7, .int r_42, .int a1]) (rest := []) ⟨hx, hb, hml, hown, hts⟩ ((aX13_meantTermW l dC dI ca base B hB hAp hB15 hB103 hB150 hB151 hB152 hB153 hB154 hB158 hB163 hB165 13).1 G0 H_41 r0 7 r_42 a1 pn pu py pb zs zn za zb zc zy hi C) (cwV 3 hts (jgV (jWr_65 _ (List.mem_of_getElem? (i := 3) rfl)) (jWr_65 _ (List.mem_of_getElem? (i := 4) rfl)) (jWr_65 _ (List.mem_of_getElem? (i := 5) rfl)) (jWr_12 _ (List.mem_of_getElem? (i := 12) rfl)) (jWr_65 _ (List.mem_of_getElem? (i := 6) rfl))) rfl rfl rfl (by decide +kernel) ⟨by rw [← hR]; show (29) + 1 ≤ ee + 40; omega, by rw [← hR]; show 8 + (8 + 11) + (945) ≤ 40 * ee + 1500; omega⟩) ⟨fun a U g mk q => by obtain ⟨q0, q1, q2, qK, q10, q11, q12, q13, q14, q15, q16, q17, q18, q19⟩ := q; exact ⟨q0, q1, q2, jG.calling g mk a qK, q10, q11, q12, q13, q14, q15, q16, q17, q18, q19⟩, hh_47.recv (C := RX13) (T := TX13) (N := 50) hB15 rfl (by decide) hg_r0 hK, fun U hU hW => ⟨rfl, hU, hh_47.2.1, hG.step hW hU hh_47.1, hg_r0, hg_zs, hg_zn, hg_za, hg_zb, hg_zc, hg_zy, (hh_47.2.2.1.sub (L1 := [(r0, 15, 5, .int pn), (r0, 15, 34, .int pu), (r0, 15, 11, .int py), (r0, 15, 36, .int pb), (r0, 15, 0, .ref zs), (r0, 15, 1, .ref zn), (r0, 15, 2, .ref za), (r0, 15, 3, .ref zb), (r0, 15, 4, .ref zc), (r0, 15, 14, .ref zy)]) [1, 2, 3, 4, 5, 6, 7, 8, 9, 10] rfl), (hh_47.2.2.2.2.2.2.2.1.sub (L1 := [(zs, 150, 120000, ca 1, C.s), (zn, 151, 120000, ca 1, C.n), (za, 152, 120000, ca 1, C.a), (zb, 153, 120000, ca 1, C.b), (zc, 154, 120000, ca 1, C.c), (zy, 165, 16, ca 1, C.y)]) [0, 1, 2, 3, 4, 5] rfl), ⟨(by first | assumption | exact c11 | (rw [← hqz_53, ← hqz_54]; omega) | omega), (by first | omega | rfl | assumption | exact c11 | (rw [← hqz_53, ← hqz_54]; omega)), (by first | omega | rfl | assumption | exact c11 | (rw [← hqz_53, ← hqz_54]; omega)), (by first | omega | rfl | assumption | exact c11 | (rw [← hqz_53, ← hqz_54]; omega)), (by first | omega | rfl | assumption | exact c11 | (rw [← hqz_53, ← hqz_54]; omega)), (by first | omega | rfl | assumption | exact c11 | (rw [← hqz_53, ← hqz_54]; omega)), (by first | omega | rfl | assumption | exact c11 | (rw [← hqz_53, ← hqz_54]; omega)), (by first | omega | rfl | assumption | exact c11 | (rw [← hqz_53, ← hqz_54]; omega)), (by first | omega | rfl | assumption | exact c11 | (rw [← hqz_53, ← hqz_54]; omega)), (by first | omega | rfl | assumption | exact c11 | (rw [← hqz_53, ← hqz_54]; omega)), (by first | omega | rfl | assumption | exact c11 | (rw [← hqz_53, ← hqz_54]; omega)), (by first | omega | rfl | assumption | exact c11 | (rw [← hqz_53, ← hqz_54]; omega)), (by first | omega | rfl | assumption | exact c11 | (rw [← hqz_53, ← hqz_54]; omega)), (by first | omega | rfl | assumption | exact c11 | (rw [← hqz_53, ← hqz_54]; omega)), (by first | omega | rfl | assumption | exact c11 | (rw [← hqz_53, ← hqz_54]; omega)), (by first | omega | rfl | assumption | exact c11 | (rw [← hqz_53, ← hqz_54]; omega)), (by first | omega | rfl | assumption | exact c11 | (rw [← hqz_53, ← hqz_54]; omega))⟩⟩⟩ rfl rfl hl.1 rfl (lv_room (Nat.le_of_ble_eq_true rfl)) dX13_meant_73 ⟨Nat.zero_le _, Nat.zero_le _⟩) hh_47.1 (fun q _ h => h) (fun q h => h) (fun r_57 u_56 t_56 H_56 locs_56 ht_56 hvm_56 hr_57 hb_56 hz_56 hk_56 hS_56 => ?_)
            obtain ⟨qn_56, qu_56, D_56⟩ := u_56
            rw [ht_56] at hb_56
            obtain ⟨⟨hb_561, hb_562, hb_563, hb_564, hb_565⟩, hb_566⟩ := hb_56
            have hh_56 : jSt (dC, dI) B base G0 G0 EX13_meant s.heap 0 0 [(r0, 15, 5, .int qn_56), (r0, 15, 34, .int qu_56), (r0, 15, 13, .ref predicate_48), (r0, 15, 11, .int py), (r0, 15, 36, .int pb), (r0, 15, 0, .ref zs), (r0, 15, 1, .ref zn), (r0, 15, 2, .ref za), (r0, 15, 3, .ref zb), (r0, 15, 4, .ref zc), (r0, 15, 14, .ref zy)] [(zs, 150, 120000, ca 1, D_56.s), (zn, 151, 120000, ca 1, D_56.n), (za, 152, 120000, ca 1, D_56.a), (zb, 153, 120000, ca 1, D_56.b), (zc, 154, 120000, ca 1, D_56.c), (zy, 165, 16, ca 1, D_56.y), (zy, 165, 16, ca 1, C.y)] [] H_56 locs_56 := ((hh_47.call hb_561 hb_562 hb_563 hb_564 hS_56 rfl (L1 := [(r0, 15, 13, .ref predicate_48), (r0, 15, 11, .int py), (r0, 15, 36, .int pb), (r0, 15, 0, .ref zs), (r0, 15, 1, .ref zn), (r0, 15, 2, .ref za), (r0, 15, 3, .ref zb), (r0, 15, 4, .ref zc), (r0, 15, 14, .ref zy)]) [0, 3, 4, 5, 6, 7, 8, 9, 10] rfl rfl (M1 := [(zy, 165, 16, ca 1, C.y)]) [5] rfl rfl (I1 := []) [] rfl rfl).more hb_565).moreM hb_566
            clear hh_47 ht_56 hvm_56 hz_56 hk_56 hS_56 hb_561 hb_562 hb_563 hb_564 hb_565
            clear hb_566
            try simp only at hr_57
            obtain ⟨hr_57_0, hr_57_1, hr_57_2, hr_57_3, hr_57_4, hr_57_5⟩ := hr_57
            rw [hQ]
            exact W.iret (v := r_57) hx hb hr (fun t ht hW => ⟨⟨r_57, (qn_56, qu_56, pb, D_56), rfl, by (try dsimp only); refine ⟨by omega, by omega, by omega, by omega, hr_57_4, by omega, fun h9 => ?_⟩; obtain ⟨f, sz⟩ := hr_57_5 h9; exact ⟨f.mono (by omega) (Int.le_refl _), by omega⟩, ⟨hh_56.rt (M1 := [(r0, 15, 5, .int qn_56), (r0, 15, 34, .int qu_56), (r0, 15, 36, .int pb)]) [0, 1, 4] rfl ht, by rw [ht]; exact hh_56.2.2.2.2.2.2.2.1.sub [0, 1, 2, 3, 4, 5] rfl⟩⟩, by rw [ht]; try exact hh_56.1.1, fun q h9 hq => by rw [ht]; try exact hh_56.1.2.1 q h9 hq⟩) hh_56.1.2.2 dX13_meant_76
          · skip
            have c_55' : z_53.toInt ≠ z_54.toInt := jb_eq_n (rfl) (rfl) c_55
            refine lv_aload_n hx hb dX13_meant_61 rfl (lv_at hl 2 rfl) ?_
            refine lv_iconst (v := 5) hx hb dX13_meant_62 (by decide) ?_
            refine va_callv (A0 := jA base) (H0 := s.heap) (va_runV (As := [.int 5]) (rest := []) ⟨hx, hb, hml, hown, hts⟩ (uX13_failsK l dC dI ca base B hB hAp hB15 G0 H_41 r0 5 pu) (cwV 1 hts (jgV (jWr_64 _ (List.mem_of_getElem? (i := 19) rfl)) (jWr_64 _ (List.mem_of_getElem? (i := 20) rfl)) (jWr_64 _ (List.mem_of_getElem? (i := 21) rfl)) (jWr_12 _ (List.mem_of_getElem? (i := 12) rfl)) (jWr_64 _ (List.mem_of_getElem? (i := 22) rfl))) rfl rfl rfl (by decide +kernel) ⟨by rw [← hR]; show (0) + 1 ≤ ee + 40; omega, by rw [← hR]; show 8 + (2 + 11) + (0) ≤ 40 * ee + 1500; omega⟩) ⟨fun a U g mk q => by obtain ⟨q0, q1, q2, qK, q10, q11, q12⟩ := q; exact ⟨q0, q1, q2, jG.calling g mk a qK, q10, q11, q12⟩, hh_47.recv (C := RX13) (T := TX13) (N := 50) hB15 rfl (by decide) hg_r0 hK, fun U hU hW => ⟨rfl, hU, hh_47.2.1, hG.step hW hU hh_47.1, hg_r0, (hh_47.2.2.1.sub (L1 := [(r0, 15, 34, .int pu)]) [2] rfl), by first | omega | (refine ⟨?_, ?_, ?_, ?_⟩ <;> (first | omega | rfl | assumption | decide | exact Or.inl rfl | exact Or.inr rfl | (simp only; omega)))⟩⟩ rfl rfl hl.1 rfl (lv_room (Nat.le_of_ble_eq_true rfl)) dX13_meant_63 ⟨Nat.zero_le _, Nat.zero_le _⟩) hh_47.1 (fun q _ h => h) (fun q h => h) (fun u_58 t_58 H_58 locs_58 ht_58 hvm_58 hr_59 hb_58 hz_58 hk_58 hS_58 => ?_)
            obtain ⟨qu_58, rfl⟩ : ∃ z, z = u_58 := ⟨_, rfl⟩
            rw [ht_58] at hb_58
            obtain ⟨hb_581, hb_582, hb_583, hb_584, hb_585⟩ := hb_58
            have hh_58 : jSt (dC, dI) B base G0 G0 EX13_meant s.heap 0 0 [(r0, 15, 34, .int qu_58), (r0, 15, 13, .ref predicate_48), (r0, 15, 5, .int pn), (r0, 15, 11, .int py), (r0, 15, 36, .int pb), (r0, 15, 0, .ref zs), (r0, 15, 1, .ref zn), (r0, 15, 2, .ref za), (r0, 15, 3, .ref zb), (r0, 15, 4, .ref zc), (r0, 15, 14, .ref zy)] [(zs, 150, 120000, ca 1, C.s), (zn, 151, 120000, ca 1, C.n), (za, 152, 120000, ca 1, C.a), (zb, 153, 120000, ca 1, C.b), (zc, 154, 120000, ca 1, C.c), (zy, 165, 16, ca 1, C.y)] [] H_58 locs_58 := ((hh_47.call hb_581 hb_582 hb_583 hb_584 hS_58 rfl (L1 := [(r0, 15, 13, .ref predicate_48), (r0, 15, 5, .int pn), (r0, 15, 11, .int py), (r0, 15, 36, .int pb), (r0, 15, 0, .ref zs), (r0, 15, 1, .ref zn), (r0, 15, 2, .ref za), (r0, 15, 3, .ref zb), (r0, 15, 4, .ref zc), (r0, 15, 14, .ref zy)]) [0, 1, 3, 4, 5, 6, 7, 8, 9, 10] rfl rfl (M1 := [(zs, 150, 120000, ca 1, C.s), (zn, 151, 120000, ca 1, C.n), (za, 152, 120000, ca 1, C.a), (zb, 153, 120000, ca 1, C.b), (zc, 154, 120000, ca 1, C.c), (zy, 165, 16, ca 1, C.y)]) [0, 1, 2, 3, 4, 5] rfl rfl (I1 := []) [] rfl rfl).more hb_585)
            clear hh_47 ht_58 hvm_58 hz_58 hk_58 hS_58 hb_581 hb_582 hb_583 hb_584 hb_585
            obtain ⟨hr_59_0, hr_59_1, hr_59_2, hr_59_3⟩ := hr_59
            refine lv_iconst (v := 0) hx hb dX13_meant_66 (by decide) ?_
            rw [hQ]
            exact W.iret (v := 0) hx hb hr (fun t ht hW => ⟨⟨0, (pn, qu_58, pb, C), rfl, by (try dsimp only); refine ⟨by omega, by omega, by omega, by omega, jAgK.rf _ _, by omega, fun h9 => absurd h9 (by omega)⟩, ⟨hh_58.rt (M1 := [(r0, 15, 5, .int pn), (r0, 15, 34, .int qu_58), (r0, 15, 36, .int pb)]) [2, 0, 4] rfl ht, by rw [ht]; exact hh_58.2.2.2.2.2.2.2.1.sub [0, 1, 2, 3, 4, 5] rfl⟩⟩, by rw [ht]; try exact hh_58.1.1, fun q h9 hq => by rw [ht]; try exact hh_58.1.2.1 q h9 hq⟩) hh_58.1.2.2 dX13_meant_67
  · skip
    have c_1' : pu.toInt > 0 := jb_le_n (rfl) ((by decide)) c_1
    refine lv_iconst (v := 0) hx hb dX13_meant_7 (by decide) ?_
    rw [hQ]
    exact W.iret (v := 0) hx hb hr (fun t ht hW => ⟨⟨0, (pn, pu, pb, C), rfl, by (try dsimp only); refine ⟨by omega, by omega, by omega, by omega, jAgK.rf _ _, by omega, fun h9 => absurd h9 (by omega)⟩, ⟨hh.rt (M1 := [(r0, 15, 5, .int pn), (r0, 15, 34, .int pu), (r0, 15, 36, .int pb)]) [0, 1, 3] rfl ht, by rw [ht]; exact hh.2.2.2.2.2.2.2.1.sub [0, 1, 2, 3, 4, 5] rfl⟩⟩, by rw [ht]; try exact hh.1.1, fun q h9 hq => by rw [ht]; try exact hh.1.2.1 q h9 hq⟩) hh.1.2.2 dX13_meant_8
theorem aX13_meant (l : Launch) (dC : Nat → ClassId) (dI : Nat → Nat → Nat) (ca : Nat → ClassId) (base : Nat) (B : jF) (hB : jBok B) (hAp : jAp (dC, dI)) (hB15 : ∀ n G a H, B 15 n G a H ↔ jOb (dC, dI) 15 50 (F15 n G) a H) (hB103 : ∀ n G a H, B 103 n G a H ↔ jAr (dC, dI) (ca 3) (fun j z => (z = 0 ∨ z = 1)) n a H) (hB150 : ∀ n G a H, B 150 n G a H ↔ jAr (dC, dI) (ca 1) (fun j z => True) n a H) (hB151 : ∀ n G a H, B 151 n G a H ↔ jAr (dC, dI) (ca 1) (fun j z => True) n a H) (hB152 : ∀ n G a H, B 152 n G a H ↔ jAr (dC, dI) (ca 1) (fun j z => True) n a H) (hB153 : ∀ n G a H, B 153 n G a H ↔ jAr (dC, dI) (ca 1) (fun j z => True) n a H) (hB154 : ∀ n G a H, B 154 n G a H ↔ jAr (dC, dI) (ca 1) (fun j z => True) n a H) (hB158 : ∀ n G a H, B 158 n G a H ↔ jAr (dC, dI) (ca 1) (fun j z => 0 ≤ z.toInt ∧ z.toInt ≤ 6) n a H) (hB163 : ∀ n G a H, B 163 n G a H ↔ jAr (dC, dI) (ca 1) (fun j z => 0 ≤ z.toInt ∧ z.toInt ≤ 1599) n a H) (hB165 : ∀ n G a H, B 165 n G a H ↔ jAr (dC, dI) (ca 1) (fun j z => 0 ≤ z.toInt ∧ z.toInt ≤ 3) n a H) : ∀ ef, qX13_meant l dC dI ca base B ef := fun ef => Nat.strongRecOn ef (fun e ih => fun G0 H0 r0 a1 pn pu py pb zs zn za zb zc zy gq lo hi C => uX13_meant l dC dI ca base B hB hAp hB15 hB103 hB150 hB151 hB152 hB153 hB154 hB158 hB163 hB165 e ih G0 H0 r0 a1 pn pu py pb zs zn za zb zc zy gq lo hi C)
end
section
-- the reference's kernel: its facts, goals and lemma are good formulas
theorem jG1.sub2 {C : jK} {N Y x : Int} (h : jG1 C N Y x) (hs : (0 ≤ jSo C.s x ∧ jSo C.s x ≤ 2) ∨ jSo C.s x = 6) : jG1 C N Y (jSo C.a x) ∧ jG1 C N Y (jSo C.b x) ∧ jsz C x = 1 + jsz C (jSo C.a x) + jsz C (jSo C.b x) := by
  have hp : jPts C x = 2 := (jPts_nl C x).2.2.1 (by omega)
  have hq : jQf C x = 0 := (jQf_ok C x).2.1 (by omega)
  have p0 := h.1.part (k := 0) (by omega) (by omega)
  have p1 := h.1.part (k := 1) (by omega) (by omega)
  rw [hq, Int.add_zero] at p0 p1
  have s0 := jsz_part h.1 (by omega) (k := 0) (by omega) (by omega)
  have s1 := jsz_part h.1 (by omega) (k := 1) (by omega) (by omega)
  have hz := h.2
  have e := jsz_step h.1 (by omega)
  rw [hp, (jSzK_y C x 2).2.2.1 rfl] at e
  exact ⟨⟨p0.mono (by omega) (Int.le_refl _), by show jsz C (jPr C x 0) ≤ 80; omega⟩, ⟨p1.mono (by omega) (Int.le_refl _), by show jsz C (jPr C x 1) ≤ 80; omega⟩, e⟩
theorem jG1.quant {C D : jK} {N M Y x : Int} (h : jG1 C N Y x) (hA : jAgK C D N) (hM : N ≤ M) (hs : jSo C.s x = 4 ∨ jSo C.s x = 5) : jQf D x = 1 ∧ jPts D x = 1 ∧ jFm D M Y 80 0 x ∧ jsz D x ≤ 80 := by
  have h1 := h.1.nd.1; have h2 := h.1.nd.2.1
  refine ⟨by rw [hA.qf h1 h2]; exact (jQf_ok C x).1 hs, by rw [hA.pts h1 h2]; exact (jPts_nl C x).2.1 hs, h.1.ag hA hM, by rw [jsz_ag hA h.1]; exact h.2⟩
theorem jG1.rng {C : jK} {N Y x : Int} (h : jG1 C N Y x) : 0 ≤ x ∧ x < N ∧ 0 ≤ jSo C.s x ∧ jSo C.s x ≤ 10 := ⟨h.1.nd.1, h.1.nd.2.1, h.1.nd.2.2.1, h.1.nd.2.2.2.1⟩
theorem jMulB {a b : Int} (ha : 0 ≤ a ∧ a ≤ 80) (hb : -80 ≤ b ∧ b ≤ 80) : -6400 ≤ a * b ∧ a * b ≤ 6400 := by
  have h1 : a * b ≤ a * 80 := Int.mul_le_mul_of_nonneg_left hb.2 ha.1
  have h2 : a * (-80) ≤ a * b := Int.mul_le_mul_of_nonneg_left hb.1 ha.1
  omega
def jRd (D : jK) (c lo x hi : Int) : Prop := (c = 2 ∨ c = 3 ∨ c = 18 → jRw D 1500 12 lo x hi) ∧ (c = 14 ∨ c = 15 → jRtm D 13 x hi ∧ lo ≤ x ∧ hi - x ≤ 3100)
def jFc (ff gf : Nat → Int32) (pf qf x : Int) : Prop := (qf = pf ∧ gf = ff) ∨ (qf = pf + 1 ∧ pf ≤ 15 ∧ jUpd 16 ff gf pf x)
theorem jFa.fc {P : Int → Prop} {ff gf : Nat → Int32} {pf qf x : Int} (h : jFa P ff pf) (hc : jFc ff gf pf qf x) (hx : P x) : jFa P gf qf := by
  rcases hc with ⟨e1, e2⟩ | ⟨e1, e2, e3⟩
  · rw [e1, e2]; exact h
  · exact h.add e3 hx e1 (by omega)
theorem jKi.ag {C D : jK} {pn qn py pf pg pp pl : Int} {ff fg fh fp : Nat → Int32} (h : jKi C pn py pf pg pp pl ff fg fh fp) (hA : jAgK C D pn) (hn : pn ≤ qn) : jKi D qn py pf pg pp pl ff fg fh fp := by
  obtain ⟨h1, h2, h3, h4, h5, h6, h7, h8, h9, h10⟩ := h
  exact ⟨by omega, h2, h3, h4, h5, h6, h7, h8.mono (fun x q => q.ag hA hn), h9.mono (fun x q => q.ag hA hn), fun q => (h10 q).ag hA hn⟩
theorem jKi.gl {C : jK} {pn py pf pg qg pp pl : Int} {ff fg fh fp gg gh gp : Nat → Int32} (h : jKi C pn py pf pg pp pl ff fg fh fp) (hg : jGl (jG1 C pn py) gg gh gp qg) (h0 : 0 ≤ qg) (h6 : qg ≤ 6) : jKi C pn py pf qg pp pl ff gg gh gp := by
  obtain ⟨h1, h2, h3, h4, h5, -, -, h8, h9, h10⟩ := h
  exact ⟨h1, h2, h3, h4, h5, h0, h6, h8, hg, h10⟩
-- one more symbol
theorem jFm.newsym {C : jK} {N Y : Int} {g : Nat → Int32} (hy : ∀ j : Int, 0 ≤ j → j < 16 → j ≠ Y → jSo g j = jSo C.y j) (h16 : Y < 16) {d : Nat} : ∀ {b n : Int}, jFm C N Y d b n → jFm (jK.mk C.s C.n C.a C.b C.c g) N (Y + 1) d b n ∧ ∀ e, jSzF (jK.mk C.s C.n C.a C.b C.c g) e n = jSzF C e n := by
  induction d with
  | zero => intro b n h; exact h.elim
  | succ d ih =>
    intro b n h
    obtain ⟨⟨h1, h2, h3, h4, h5, h6, h7, h8, h9⟩, hp⟩ := h
    have ep : jPts (jK.mk C.s C.n C.a C.b C.c g) n = jPts C n := by
      show (if jSo C.s n = 7 ∨ jSo C.s n = 8 then jSo g (jSo C.n n) else if jSo C.s n ≤ 2 ∨ jSo C.s n = 6 then 2 else if jSo C.s n = 4 ∨ jSo C.s n = 5 then 1 else 0) = (if jSo C.s n = 7 ∨ jSo C.s n = 8 then jSo C.y (jSo C.n n) else if jSo C.s n ≤ 2 ∨ jSo C.s n = 6 then 2 else if jSo C.s n = 4 ∨ jSo C.s n = 5 then 1 else 0)
      by_cases q : jSo C.s n = 7 ∨ jSo C.s n = 8
      · rw [if_pos q, if_pos q]; have := h5 q; exact hy _ (by omega) (by omega) (by omega)
      · rw [if_neg q, if_neg q]
    refine ⟨⟨⟨h1, h2, h3, h4, fun q => ⟨(h5 q).1, by have := (h5 q).2; show jSo C.n n < Y + 1; omega⟩, h6, h7, by rw [ep]; exact h8, by rw [ep]; exact h9⟩, fun k g0 g1 => ?_⟩, fun e => ?_⟩
    · rw [ep] at g1; exact (ih (hp k g0 g1)).1
    · cases e with
      | zero => rfl
      | succ e =>
        unfold jSzF
        rw [ep]
        have ee : ∀ k, 0 ≤ k → k < jPts C n → jSzF (jK.mk C.s C.n C.a C.b C.c g) e (jPr C n k) = jSzF C e (jPr C n k) := fun k g0 g1 => (ih (hp k g0 g1)).2 e
        have e0 : (if 0 < jPts C n then jSzF (jK.mk C.s C.n C.a C.b C.c g) e (jPr C n 0) else 0) = (if 0 < jPts C n then jSzF C e (jPr C n 0) else 0) := by split; exact ee 0 (by omega) (by omega); rfl
        have e1 : (if 1 < jPts C n then jSzF (jK.mk C.s C.n C.a C.b C.c g) e (jPr C n 1) else 0) = (if 1 < jPts C n then jSzF C e (jPr C n 1) else 0) := by split; exact ee 1 (by omega) (by omega); rfl
        have e2 : (if 2 < jPts C n then jSzF (jK.mk C.s C.n C.a C.b C.c g) e (jPr C n 2) else 0) = (if 2 < jPts C n then jSzF C e (jPr C n 2) else 0) := by split; exact ee 2 (by omega) (by omega); rfl
        show 1 + (if 0 < jPts C n then jSzF (jK.mk C.s C.n C.a C.b C.c g) e (jPr C n 0) else 0) + (if 1 < jPts C n then jSzF (jK.mk C.s C.n C.a C.b C.c g) e (jPr C n 1) else 0) + (if 2 < jPts C n then jSzF (jK.mk C.s C.n C.a C.b C.c g) e (jPr C n 2) else 0) = _
        rw [e0, e1, e2]
theorem jG1.newsym {C : jK} {N Y x : Int} {g : Nat → Int32} (h : jG1 C N Y x) (hy : ∀ j : Int, 0 ≤ j → j < 16 → j ≠ Y → jSo g j = jSo C.y j) (h16 : Y < 16) : jG1 (jK.mk C.s C.n C.a C.b C.c g) N (Y + 1) x := by
  have h1 := h.1.newsym hy h16
  refine ⟨h1.1, ?_⟩
  show jSzF _ 4000 x ≤ 80
  rw [h1.2 4000]; exact h.2
theorem jKi.newsym {C : jK} {pn py qy pf pg pp pl : Int} {ff fg fh fp g : Nat → Int32} (h : jKi C pn py pf pg pp pl ff fg fh fp) (hy : jUpd 16 C.y g py qy) (h16 : py < 16) : jKi (jK.mk C.s C.n C.a C.b C.c g) pn (py + 1) pf pg pp pl ff fg fh fp := by
  obtain ⟨h1, h2, h3, h4, h5, h6, h7, h8, h9, h10⟩ := h
  exact ⟨h1, by omega, by omega, h4, h5, h6, h7, h8.mono (fun x q => q.newsym hy.2 h16), h9.mono (fun x q => q.newsym hy.2 h16), fun q => (h10 q).newsym hy.2 h16⟩
end
