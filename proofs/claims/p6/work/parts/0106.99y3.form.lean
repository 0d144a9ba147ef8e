section
theorem dX7_formula_0 : decode cX7_formula 0 = .ok (.aload_n 0, 1) := by decide +kernel
theorem dX7_formula_1 : decode cX7_formula 1 = .ok (.iconst 0, 1) := by decide +kernel
theorem dX7_formula_2 : decode cX7_formula 2 = .ok (.putfield 103, 3) := by decide +kernel
theorem dX7_formula_5 : decode cX7_formula 5 = .ok (.aload_n 0, 1) := by decide +kernel
theorem dX7_formula_6 : decode cX7_formula 6 = .ok (.iconst 2, 1) := by decide +kernel
theorem dX7_formula_7 : decode cX7_formula 7 = .ok (.sipush 256, 3) := by decide +kernel
theorem dX7_formula_10 : decode cX7_formula 10 = .ok (.invokevirtual 106, 3) := by decide +kernel
theorem dX7_formula_13 : decode cX7_formula 13 = .ok (.iconst 0, 1) := by decide +kernel
theorem dX7_formula_14 : decode cX7_formula 14 = .ok (.istore_n 3, 1) := by decide +kernel
theorem dX7_formula_15 : decode cX7_formula 15 = .ok (.iload_n 3, 1) := by decide +kernel
theorem dX7_formula_16 : decode cX7_formula 16 = .ok (.sipush 800, 3) := by decide +kernel
theorem dX7_formula_19 : decode cX7_formula 19 = .ok (.if_icmp .ge 273, 3) := by decide +kernel
theorem dX7_formula_22 : decode cX7_formula 22 = .ok (.aload_n 0, 1) := by decide +kernel
theorem dX7_formula_23 : decode cX7_formula 23 = .ok (.getfield 103, 3) := by decide +kernel
theorem dX7_formula_26 : decode cX7_formula 26 = .ok (.ifCond .le 266, 3) := by decide +kernel
theorem dX7_formula_29 : decode cX7_formula 29 = .ok (.aload_n 0, 1) := by decide +kernel
theorem dX7_formula_30 : decode cX7_formula 30 = .ok (.dup, 1) := by decide +kernel
theorem dX7_formula_31 : decode cX7_formula 31 = .ok (.getfield 103, 3) := by decide +kernel
theorem dX7_formula_34 : decode cX7_formula 34 = .ok (.iconst 1, 1) := by decide +kernel
theorem dX7_formula_35 : decode cX7_formula 35 = .ok (.isub, 1) := by decide +kernel
theorem dX7_formula_36 : decode cX7_formula 36 = .ok (.putfield 103, 3) := by decide +kernel
theorem dX7_formula_39 : decode cX7_formula 39 = .ok (.aload_n 0, 1) := by decide +kernel
theorem dX7_formula_40 : decode cX7_formula 40 = .ok (.getfield 11, 3) := by decide +kernel
theorem dX7_formula_43 : decode cX7_formula 43 = .ok (.aload_n 0, 1) := by decide +kernel
theorem dX7_formula_44 : decode cX7_formula 44 = .ok (.getfield 103, 3) := by decide +kernel
theorem dX7_formula_47 : decode cX7_formula 47 = .ok (.iaload, 1) := by decide +kernel
theorem dX7_formula_48 : decode cX7_formula 48 = .ok (.iconst 3, 1) := by decide +kernel
theorem dX7_formula_49 : decode cX7_formula 49 = .ok (.iand, 1) := by decide +kernel
theorem dX7_formula_50 : decode cX7_formula 50 = .ok (.istore 4, 2) := by decide +kernel
theorem dX7_formula_52 : decode cX7_formula 52 = .ok (.aload_n 0, 1) := by decide +kernel
theorem dX7_formula_53 : decode cX7_formula 53 = .ok (.getfield 11, 3) := by decide +kernel
theorem dX7_formula_56 : decode cX7_formula 56 = .ok (.aload_n 0, 1) := by decide +kernel
theorem dX7_formula_57 : decode cX7_formula 57 = .ok (.getfield 103, 3) := by decide +kernel
theorem dX7_formula_60 : decode cX7_formula 60 = .ok (.iaload, 1) := by decide +kernel
theorem dX7_formula_61 : decode cX7_formula 61 = .ok (.iconst 2, 1) := by decide +kernel
theorem dX7_formula_62 : decode cX7_formula 62 = .ok (.ishr, 1) := by decide +kernel
theorem dX7_formula_63 : decode cX7_formula 63 = .ok (.istore 5, 2) := by decide +kernel
theorem dX7_formula_65 : decode cX7_formula 65 = .ok (.iload 5, 2) := by decide +kernel
theorem dX7_formula_67 : decode cX7_formula 67 = .ok (.sipush 255, 3) := by decide +kernel
theorem dX7_formula_70 : decode cX7_formula 70 = .ok (.iand, 1) := by decide +kernel
theorem dX7_formula_71 : decode cX7_formula 71 = .ok (.istore 6, 2) := by decide +kernel
theorem dX7_formula_73 : decode cX7_formula 73 = .ok (.iload 4, 2) := by decide +kernel
theorem dX7_formula_75 : decode cX7_formula 75 = .ok (.iconst 2, 1) := by decide +kernel
theorem dX7_formula_76 : decode cX7_formula 76 = .ok (.if_icmp .ne 20, 3) := by decide +kernel
theorem dX7_formula_79 : decode cX7_formula 79 = .ok (.iload 6, 2) := by decide +kernel
theorem dX7_formula_81 : decode cX7_formula 81 = .ok (.aload_n 1, 1) := by decide +kernel
theorem dX7_formula_82 : decode cX7_formula 82 = .ok (.arraylength, 1) := by decide +kernel
theorem dX7_formula_83 : decode cX7_formula 83 = .ok (.if_icmp .ge 13, 3) := by decide +kernel
theorem dX7_formula_86 : decode cX7_formula 86 = .ok (.aload_n 1, 1) := by decide +kernel
theorem dX7_formula_87 : decode cX7_formula 87 = .ok (.iload 6, 2) := by decide +kernel
theorem dX7_formula_89 : decode cX7_formula 89 = .ok (.iaload, 1) := by decide +kernel
theorem dX7_formula_90 : decode cX7_formula 90 = .ok (.bipush 15, 2) := by decide +kernel
theorem dX7_formula_92 : decode cX7_formula 92 = .ok (.iand, 1) := by decide +kernel
theorem dX7_formula_93 : decode cX7_formula 93 = .ok (.goto 4, 3) := by decide +kernel
theorem dX7_formula_96 : decode cX7_formula 96 = .ok (.iconst 0, 1) := by decide +kernel
theorem dX7_formula_97 : decode cX7_formula 97 = .ok (.istore 7, 2) := by decide +kernel
theorem dX7_formula_99 : decode cX7_formula 99 = .ok (.iload 7, 2) := by decide +kernel
theorem dX7_formula_101 : decode cX7_formula 101 = .ok (.iconst 5, 1) := by decide +kernel
theorem dX7_formula_102 : decode cX7_formula 102 = .ok (.if_icmp .eq 10, 3) := by decide +kernel
theorem dX7_formula_105 : decode cX7_formula 105 = .ok (.iload 7, 2) := by decide +kernel
theorem dX7_formula_107 : decode cX7_formula 107 = .ok (.bipush 6, 2) := by decide +kernel
theorem dX7_formula_109 : decode cX7_formula 109 = .ok (.if_icmp .ne 7, 3) := by decide +kernel
theorem dX7_formula_112 : decode cX7_formula 112 = .ok (.iconst 1, 1) := by decide +kernel
theorem dX7_formula_113 : decode cX7_formula 113 = .ok (.goto 4, 3) := by decide +kernel
theorem dX7_formula_116 : decode cX7_formula 116 = .ok (.iconst 0, 1) := by decide +kernel
theorem dX7_formula_117 : decode cX7_formula 117 = .ok (.istore 8, 2) := by decide +kernel
theorem dX7_formula_119 : decode cX7_formula 119 = .ok (.iload 4, 2) := by decide +kernel
theorem dX7_formula_121 : decode cX7_formula 121 = .ok (.ifCond .ne 15, 3) := by decide +kernel
theorem dX7_formula_124 : decode cX7_formula 124 = .ok (.aload_n 2, 1) := by decide +kernel
theorem dX7_formula_125 : decode cX7_formula 125 = .ok (.iload 5, 2) := by decide +kernel
theorem dX7_formula_127 : decode cX7_formula 127 = .ok (.invokestatic 110, 3) := by decide +kernel
theorem dX7_formula_130 : decode cX7_formula 130 = .ok (.invokevirtual 33, 3) := by decide +kernel
theorem dX7_formula_133 : decode cX7_formula 133 = .ok (.goto 153, 3) := by decide +kernel
theorem dX7_formula_136 : decode cX7_formula 136 = .ok (.iload 4, 2) := by decide +kernel
theorem dX7_formula_138 : decode cX7_formula 138 = .ok (.iconst 1, 1) := by decide +kernel
theorem dX7_formula_139 : decode cX7_formula 139 = .ok (.if_icmp .ne 24, 3) := by decide +kernel
theorem dX7_formula_142 : decode cX7_formula 142 = .ok (.aload_n 0, 1) := by decide +kernel
theorem dX7_formula_143 : decode cX7_formula 143 = .ok (.getfield 21, 3) := by decide +kernel
theorem dX7_formula_146 : decode cX7_formula 146 = .ok (.iload 5, 2) := by decide +kernel
theorem dX7_formula_148 : decode cX7_formula 148 = .ok (.ldc 114, 2) := by decide +kernel
theorem dX7_formula_150 : decode cX7_formula 150 = .ok (.iand, 1) := by decide +kernel
theorem dX7_formula_151 : decode cX7_formula 151 = .ok (.iload 5, 2) := by decide +kernel
theorem dX7_formula_153 : decode cX7_formula 153 = .ok (.bipush 17, 2) := by decide +kernel
theorem dX7_formula_155 : decode cX7_formula 155 = .ok (.ishr, 1) := by decide +kernel
theorem dX7_formula_156 : decode cX7_formula 156 = .ok (.aload_n 2, 1) := by decide +kernel
theorem dX7_formula_157 : decode cX7_formula 157 = .ok (.invokevirtual 41, 3) := by decide +kernel
theorem dX7_formula_160 : decode cX7_formula 160 = .ok (.goto 126, 3) := by decide +kernel
theorem dX7_formula_163 : decode cX7_formula 163 = .ok (.iload 5, 2) := by decide +kernel
theorem dX7_formula_165 : decode cX7_formula 165 = .ok (.sipush 512, 3) := by decide +kernel
theorem dX7_formula_168 : decode cX7_formula 168 = .ok (.iand, 1) := by decide +kernel
theorem dX7_formula_169 : decode cX7_formula 169 = .ok (.ifCond .ne 17, 3) := by decide +kernel
theorem dX7_formula_172 : decode cX7_formula 172 = .ok (.iload 8, 2) := by decide +kernel
theorem dX7_formula_174 : decode cX7_formula 174 = .ok (.ifCond .eq 44, 3) := by decide +kernel
theorem dX7_formula_177 : decode cX7_formula 177 = .ok (.iload 5, 2) := by decide +kernel
theorem dX7_formula_179 : decode cX7_formula 179 = .ok (.sipush 256, 3) := by decide +kernel
theorem dX7_formula_182 : decode cX7_formula 182 = .ok (.iand, 1) := by decide +kernel
theorem dX7_formula_183 : decode cX7_formula 183 = .ok (.ifCond .ne 35, 3) := by decide +kernel
theorem dX7_formula_186 : decode cX7_formula 186 = .ok (.aload_n 0, 1) := by decide +kernel
theorem dX7_formula_187 : decode cX7_formula 187 = .ok (.iconst 0, 1) := by decide +kernel
theorem dX7_formula_188 : decode cX7_formula 188 = .ok (.bipush 16, 2) := by decide +kernel
theorem dX7_formula_190 : decode cX7_formula 190 = .ok (.invokevirtual 106, 3) := by decide +kernel
theorem dX7_formula_193 : decode cX7_formula 193 = .ok (.aload_n 0, 1) := by decide +kernel
theorem dX7_formula_194 : decode cX7_formula 194 = .ok (.iconst 2, 1) := by decide +kernel
theorem dX7_formula_195 : decode cX7_formula 195 = .ok (.iload 5, 2) := by decide +kernel
theorem dX7_formula_197 : decode cX7_formula 197 = .ok (.sipush (-513), 3) := by decide +kernel
theorem dX7_formula_200 : decode cX7_formula 200 = .ok (.iand, 1) := by decide +kernel
theorem dX7_formula_201 : decode cX7_formula 201 = .ok (.sipush 256, 3) := by decide +kernel
theorem dX7_formula_204 : decode cX7_formula 204 = .ok (.ior, 1) := by decide +kernel
theorem dX7_formula_205 : decode cX7_formula 205 = .ok (.invokevirtual 106, 3) := by decide +kernel
theorem dX7_formula_208 : decode cX7_formula 208 = .ok (.aload_n 0, 1) := by decide +kernel
theorem dX7_formula_209 : decode cX7_formula 209 = .ok (.iconst 0, 1) := by decide +kernel
theorem dX7_formula_210 : decode cX7_formula 210 = .ok (.bipush 17, 2) := by decide +kernel
theorem dX7_formula_212 : decode cX7_formula 212 = .ok (.invokevirtual 106, 3) := by decide +kernel
theorem dX7_formula_215 : decode cX7_formula 215 = .ok (.goto 71, 3) := by decide +kernel
theorem dX7_formula_218 : decode cX7_formula 218 = .ok (.iload 8, 2) := by decide +kernel
theorem dX7_formula_220 : decode cX7_formula 220 = .ok (.ifCond .eq 18, 3) := by decide +kernel
theorem dX7_formula_223 : decode cX7_formula 223 = .ok (.aload_n 0, 1) := by decide +kernel
theorem dX7_formula_224 : decode cX7_formula 224 = .ok (.aload_n 1, 1) := by decide +kernel
theorem dX7_formula_225 : decode cX7_formula 225 = .ok (.iload 6, 2) := by decide +kernel
theorem dX7_formula_227 : decode cX7_formula 227 = .ok (.iload 5, 2) := by decide +kernel
theorem dX7_formula_229 : decode cX7_formula 229 = .ok (.bipush 10, 2) := by decide +kernel
theorem dX7_formula_231 : decode cX7_formula 231 = .ok (.ishr, 1) := by decide +kernel
theorem dX7_formula_232 : decode cX7_formula 232 = .ok (.invokevirtual 115, 3) := by decide +kernel
theorem dX7_formula_235 : decode cX7_formula 235 = .ok (.goto 51, 3) := by decide +kernel
theorem dX7_formula_238 : decode cX7_formula 238 = .ok (.iload 7, 2) := by decide +kernel
theorem dX7_formula_240 : decode cX7_formula 240 = .ok (.iconst 1, 1) := by decide +kernel
theorem dX7_formula_241 : decode cX7_formula 241 = .ok (.if_icmp .lt 24, 3) := by decide +kernel
theorem dX7_formula_244 : decode cX7_formula 244 = .ok (.iload 7, 2) := by decide +kernel
theorem dX7_formula_246 : decode cX7_formula 246 = .ok (.iconst 4, 1) := by decide +kernel
theorem dX7_formula_247 : decode cX7_formula 247 = .ok (.if_icmp .gt 18, 3) := by decide +kernel
theorem dX7_formula_250 : decode cX7_formula 250 = .ok (.aload_n 0, 1) := by decide +kernel
theorem dX7_formula_251 : decode cX7_formula 251 = .ok (.aload_n 1, 1) := by decide +kernel
theorem dX7_formula_252 : decode cX7_formula 252 = .ok (.iload 6, 2) := by decide +kernel
theorem dX7_formula_254 : decode cX7_formula 254 = .ok (.iload 5, 2) := by decide +kernel
theorem dX7_formula_256 : decode cX7_formula 256 = .ok (.iload 6, 2) := by decide +kernel
theorem dX7_formula_258 : decode cX7_formula 258 = .ok (.isub, 1) := by decide +kernel
theorem dX7_formula_259 : decode cX7_formula 259 = .ok (.invokevirtual 119, 3) := by decide +kernel
theorem dX7_formula_262 : decode cX7_formula 262 = .ok (.goto 24, 3) := by decide +kernel
theorem dX7_formula_265 : decode cX7_formula 265 = .ok (.iload 7, 2) := by decide +kernel
theorem dX7_formula_267 : decode cX7_formula 267 = .ok (.ifCond .ne 12, 3) := by decide +kernel
theorem dX7_formula_270 : decode cX7_formula 270 = .ok (.aload_n 0, 1) := by decide +kernel
theorem dX7_formula_271 : decode cX7_formula 271 = .ok (.iconst 0, 1) := by decide +kernel
theorem dX7_formula_272 : decode cX7_formula 272 = .ok (.iconst 0, 1) := by decide +kernel
theorem dX7_formula_273 : decode cX7_formula 273 = .ok (.invokevirtual 106, 3) := by decide +kernel
theorem dX7_formula_276 : decode cX7_formula 276 = .ok (.goto 10, 3) := by decide +kernel
theorem dX7_formula_279 : decode cX7_formula 279 = .ok (.aload_n 0, 1) := by decide +kernel
theorem dX7_formula_280 : decode cX7_formula 280 = .ok (.aload_n 1, 1) := by decide +kernel
theorem dX7_formula_281 : decode cX7_formula 281 = .ok (.iload 6, 2) := by decide +kernel
theorem dX7_formula_283 : decode cX7_formula 283 = .ok (.invokevirtual 122, 3) := by decide +kernel
theorem dX7_formula_286 : decode cX7_formula 286 = .ok (.iinc 3 1, 3) := by decide +kernel
theorem dX7_formula_289 : decode cX7_formula 289 = .ok (.goto (-274), 3) := by decide +kernel
theorem dX7_formula_292 : decode cX7_formula 292 = .ok (.return_, 1) := by decide +kernel
def EX7_formula : List (Nat × Nat) := [(2, 0), (2, 1), (9, 2), (196, 0), (286, 0), (287, 0), (288, 0)]
set_option maxHeartbeats 4000000 in
set_option maxRecDepth 20000 in
theorem uX7_formula (l : Launch) (dC : Nat → ClassId) (dI : Nat → Nat → Nat) (ca : Nat → ClassId) (base : Nat) (B : jF) (hB : jBok B) (hAp : jAp (dC, dI)) (hB2 : ∀ n G a H, B 2 n G a H ↔ jOb (dC, dI) 2 2 (F2 n G) a H) (hB8 : ∀ n G a H, B 8 n G a H ↔ jOb (dC, dI) 8 4 (F8 n G) a H) (hB9 : ∀ n G a H, B 9 n G a H ↔ jOb (dC, dI) 9 5 (F9b n G) a H) (hB102 : ∀ n G a H, B 102 n G a H ↔ jAl (dC, dI) (ca 2) n a H) (hB132 : ∀ n G a H, B 132 n G a H ↔ jAr (dC, dI) (ca 1) (fun j z => 0 ≤ z.toInt ∧ z.toInt ≤ 10) n a H) (hB196 : ∀ n G a H, B 196 n G a H ↔ jAr (dC, dI) (ca 0) (fun j z => jBf j z) n a H) (hB280 : ∀ n G a H, B 280 n G a H ↔ jAr (dC, dI) (ca 1) (fun j z => -1 ≤ z.toInt) n a H) (hB286 : ∀ n G a H, B 286 n G a H ↔ jAr (dC, dI) (ca 1) (fun j z => (0 ≤ z.toInt ∨ z.toInt = -3)) n a H) (hB287 : ∀ n G a H, B 287 n G a H ↔ jAr (dC, dI) (ca 1) (fun j z => 0 ≤ z.toInt ∧ z.toInt ≤ 65535) n a H) (hB288 : ∀ n G a H, B 288 n G a H ↔ jAr (dC, dI) (ca 1) (fun j z => 0 ≤ z.toInt ∧ z.toInt ≤ 160) n a H) (G0 : jT) (H0 : Heap) (r0 : Nat) (r1 : Nat) (r2 : Nat) (n1 : Nat) (pc : Int32) (pa : Nat) (n_pa : Nat) (LC LS : Nat) : Met l yX7_formula (jw yX7_formula cX7_formula 9 none) ({ frames := 5, cells := LC - H0.size, slots := LS - jTot H0, locals := 166 }) (va_Pc [.ref r0, .ref r1, .ref r2] (fun U => U.heap = H0 ∧ jX B base G0 [] H0 ∧ jG dC dI ca base U ∧ G0 r2 = some (2, 0) ∧ G0 r1 = some (280, n1) ∧ G0 r0 = some (9, 0) ∧ G0 pa = some (196, n_pa) ∧ jP (dC, dI) G0 H0 [(r2, 2, 1, .int pc), (r2, 2, 0, .ref pa)] ∧ H0.size + (1048576 - n_pa) / 16 + 1 ≤ LC ∧ jTot H0 + 2 * (1048576 - n_pa) ≤ LS ∧ 0 ≤ pc.toInt ∧ pc.toInt ≤ n_pa ∧ 16 ≤ n_pa ∧ n_pa ≤ 1048576 ∧ jPw n_pa ∧ n1 ≤ 100000)) (va_Qv (S := Int32 × Nat × Nat × jT) (fun u => 0 ≤ u.1.toInt ∧ u.1.toInt ≤ u.2.2.1 ∧ n_pa ≤ u.2.2.1 ∧ u.2.2.1 ≤ 1048576 ∧ jPw u.2.2.1) (fun u t => jRa (dC, dI) B base G0 u.2.2.2 EX7_formula H0 ((u.2.2.1 - n_pa) / 16) (2 * (u.2.2.1 - n_pa)) [(r2, 2, 1, .int u.1), (r2, 2, 0, .ref u.2.1)] t.heap ∧ u.2.2.2 u.2.1 = some (196, u.2.2.1) ∧ (jNk [0, 1, 2, 3, 4, 5, 6, 7, 8, 9, 10, 11, 12, 13, 14, 15, 16, 17, 175]) G0 u.2.2.2 ∧ jOw (dC, dI) G0 2 r2 H0 t.heap) (jA base)) (LC - H0.size) (LS - jTot H0) (jA base) := by
  refine Met.ofW (cc := cX7_formula) (maxL := 9) (ret := none) (by decide) rfl ?_
  intro p e s m args below meth c s₁ Bd hml hv
  obtain ⟨rfl, hH0, hX, hG, hg_r2, hg_r1, hg_r0, hg_pa, hP0, hLC0, hLS0, hp0, hp1, hp2, hp3, hp4, hp5⟩ := hv
  have hK := hG.1
  have hx := Bd.exec
  have hb := Bd.bytes
  have hr := Bd.returns
  have hts := atoms_spec (ws := (jw yX7_formula cX7_formula 9 none)) Bd.pre
  have htw : ∀ w ∈ jWl, w.before _ s = true := fun w h => hts w (List.mem_cons_of_mem _ h)
  have hown : s.vm.findClass RX7 = some m.cls := findClass_of_methodNamed Bd.named
  have hlocks := Bd.notSynchronized
  obtain ⟨Q, hQ⟩ : ∃ Q, Q = MQ below (va_Qv (S := Int32 × Nat × Nat × jT) (fun u => 0 ≤ u.1.toInt ∧ u.1.toInt ≤ u.2.2.1 ∧ n_pa ≤ u.2.2.1 ∧ u.2.2.1 ≤ 1048576 ∧ jPw u.2.2.1) (fun u t => jRa (dC, dI) B base G0 u.2.2.2 EX7_formula H0 ((u.2.2.1 - n_pa) / 16) (2 * (u.2.2.1 - n_pa)) [(r2, 2, 1, .int u.1), (r2, 2, 0, .ref u.2.1)] t.heap ∧ u.2.2.2 u.2.1 = some (196, u.2.2.1) ∧ (jNk [0, 1, 2, 3, 4, 5, 6, 7, 8, 9, 10, 11, 12, 13, 14, 15, 16, 17, 175]) G0 u.2.2.2 ∧ jOw (dC, dI) G0 2 r2 H0 t.heap) (jA base)) ([.ref r0, .ref r1, .ref r2] : List Value).toArray s (LC - H0.size) (LS - jTot H0) (jA base) := ⟨_, rfl⟩
  rw [← hQ]
  have hl := lv_entry ([.ref r0, .ref r1, .ref r2]) (n := 9) (Nat.le_of_ble_eq_true rfl)
  rw [lg_entry_eq]
  generalize (lg_sl ([.ref r0, .ref r1, .ref r2]) ++ List.replicate (9 - (lg_sl ([.ref r0, .ref r1, .ref r2])).length) Slot.unset).toArray = ls at hl ⊢
  have hl : lv_has ls 9 [(0, .ref r0), (1, .ref r1), (2, .ref r2)] := hl
  generalize hR : (headSpec (jw yX7_formula cX7_formula 9 none) ({ frames := 5, cells := LC - H0.size, slots := LS - jTot H0, locals := 166 })).room = R
  subst hH0
  have hh : jSt (dC, dI) B base G0 G0 EX7_formula s.heap 0 0 [(r2, 2, 1, .int pc), (r2, 2, 0, .ref pa)] [] [] s.heap [] := jSt.start hX hP0 jMc.nil jIs.nil
  clear hX hP0
  have hkm513 : ((-513) : Int32).toInt = (-513) := by decide
  have hk0 : (0 : Int32).toInt = 0 := by decide
  have hk1 : (1 : Int32).toInt = 1 := by decide
  have hk2 : (2 : Int32).toInt = 2 := by decide
  have hk3 : (3 : Int32).toInt = 3 := by decide
  have hk4 : (4 : Int32).toInt = 4 := by decide
  have hk5 : (5 : Int32).toInt = 5 := by decide
  have hk6 : (6 : Int32).toInt = 6 := by decide
  have hk10 : (10 : Int32).toInt = 10 := by decide
  have hk15 : (15 : Int32).toInt = 15 := by decide
  have hk16 : (16 : Int32).toInt = 16 := by decide
  have hk17 : (17 : Int32).toInt = 17 := by decide
  have hk255 : (255 : Int32).toInt = 255 := by decide
  have hk256 : (256 : Int32).toInt = 256 := by decide
  have hk512 : (512 : Int32).toInt = 512 := by decide
  have hk800 : (800 : Int32).toInt = 800 := by decide
  have hk131071 : (131071 : Int32).toInt = 131071 := by decide
  have hly_9_0 := htw (u_lay RX7 TX7 0) (jWc_wsX70 _ (u_in_lay (by decide)))
  have hly_9_1 := htw (u_lay RX7 TX7 1) (jWc_wsX70 _ (u_in_lay (by decide)))
  have hly_9_2 := htw (u_lay RX7 TX7 2) (jWc_wsX70 _ (u_in_lay (by decide)))
  have hlk_103 := (htw (.fieldLink RX7 103 "ProofServer$Printer" "height" "I") (jWr_31 _ (List.mem_of_getElem? (i := 7) rfl)))
  have hlk_11 := (htw (.fieldLink RX7 11 "ProofServer$Printer" "stack" "[I") (jWr_9 _ (List.mem_of_getElem? (i := 7) rfl)))
  have hlk_21 := (htw (.fieldLink RX7 21 "ProofServer$Printer" "names" "LProofServer$Names;") (jWr_9 _ (List.mem_of_getElem? (i := 10) rfl)))
  have hcs_114 := htw (.constant RX7 114 131071) (jWr_31 _ (List.mem_of_getElem? (i := 8) rfl))
  have hbs : base ≤ s.heap.size := Nat.le_of_lt (Nat.lt_of_le_of_lt (hh.ab hg_r0).1 (hh.ab hg_r0).2)
  have hbs : base ≤ s.heap.size := Nat.le_of_lt (Nat.lt_of_le_of_lt (hh.ab hg_r0).1 (hh.ab hg_r0).2)
  have hRc : R.cells = LC - s.heap.size := by rw [← hR]; rfl
  have hRs : R.slots = LS - jTot s.heap := by rw [← hR]; rfl
  have hh_1 := hh.addI (jOw.ie (dC := dC) (dI := dI) (G0 := G0) (k := 2) (r := r2) (H0 := s.heap) (F := [(2, 0), (2, 1)]) (C := RX0) (T := TX0) (N := 2) rfl (by decide) hh.2.2.2.2.1 (jOw.rf))
  clear hh
  refine lv_aload_n hx hb dX7_formula_0 rfl (lv_at hl 0 rfl) ?_
  refine lv_iconst (v := 0) hx hb dX7_formula_1 (by decide) ?_
  refine j7_put hx hb hown hK hh_1 hB hAp hB9 (C := RX7) (T := TX7) (N := 5) rfl (by decide) hg_r0 (i := 2) (by decide) hly_9_2 rfl hlk_103 rfl (ty := .int) (v := .int 0) (by decide +kernel) rfl rfl (⟨_, rfl, by omega, by omega⟩) rfl (L1 := [(r2, 2, 1, .int pc), (r2, 2, 0, .ref pa)]) [0, 1] rfl rfl rfl dX7_formula_2 (fun H_2 locs_2 hh_2 => ?_)
  clear hh_1
  refine lv_aload_n hx hb dX7_formula_5 rfl (lv_at hl 0 rfl) ?_
  refine lv_iconst (v := 2) hx hb dX7_formula_6 (by decide) ?_
  refine lv_sipush (v := 256) hx hb dX7_formula_7 (by decide) ?_
  have hsz_3 := hh_2.2.2.2.2.2.1
  have htt_3 := hh_2.2.2.2.2.2.2.1
  refine W.room (fun hrc_3 hrs_3 => ?_)
  refine va_callv (A0 := jA base) (H0 := s.heap) (va_runV (As := [.int 2, .int 256]) (rest := []) ⟨hx, hb, hml, hown, hts⟩ (uX7_pushB l dC dI ca base B hB hAp hB9 hB286 G0 H_2 r0 2 256) (cwV 2 hts (jgV (jWr_31 _ (List.mem_of_getElem? (i := 9) rfl)) (jWr_31 _ (List.mem_of_getElem? (i := 10) rfl)) (jWr_31 _ (List.mem_of_getElem? (i := 11) rfl)) (jWr_2 _ (List.mem_of_getElem? (i := 8) rfl)) (jWr_31 _ (List.mem_of_getElem? (i := 12) rfl))) rfl rfl rfl (by decide +kernel) ⟨by rw [← hR]; exact Nat.le_of_ble_eq_true rfl, by rw [← hR]; exact Nat.le_of_ble_eq_true rfl⟩) ⟨fun a U g mk q => by obtain ⟨q0, q1, q2, qK, q10, q11, q12⟩ := q; exact ⟨q0, q1, q2, jG.calling g mk a qK, q10, q11, q12⟩, hh_2.recv (C := RX7) (T := TX7) (N := 5) hB9 rfl (by decide) hg_r0 hK, fun U hU hW => ⟨rfl, hU, hh_2.2.1, hG.step hW hU hh_2.1, hg_r0, jP.nil, ⟨(by first | omega | rfl | assumption | fail), (by first | omega | rfl | assumption | fail), (by first | omega | rfl | assumption | fail)⟩⟩⟩ rfl rfl hl.1 rfl (lv_room (Nat.le_of_ble_eq_true rfl)) dX7_formula_10 ⟨by rw [hRc]; show _ + 0 ≤ _; omega, by rw [hRs]; show _ + 0 ≤ _; omega⟩) hh_2.1 (fun q _ h => h) (fun q h => h) (fun u_3 t_3 H_3 locs_3 ht_3 hvm_3 hr_4 hb_3 hz_3 hk_3 hS_3 => ?_)
  rw [ht_3] at hb_3
  obtain ⟨hb_31, hb_32, hb_33, hb_34, hb_35⟩ := hb_3
  have hh_3 : jSt (dC, dI) B base G0 G0 EX7_formula s.heap 0 0 [(r2, 2, 1, .int pc), (r2, 2, 0, .ref pa)] [] [([(2, 0), (2, 1)], jOw (dC, dI) G0 2 r2 s.heap)] H_3 locs_3 := ((hh_2.call hb_31 hb_32 hb_33 hb_34 hS_3 rfl (L1 := [(r2, 2, 1, .int pc), (r2, 2, 0, .ref pa)]) [1, 2] rfl rfl (M1 := []) [] rfl rfl (I1 := [([(2, 0), (2, 1)], jOw (dC, dI) G0 2 r2 s.heap)]) [0] rfl rfl).more hb_35)
  clear hh_2 ht_3 hvm_3 hz_3 hk_3 hS_3 hb_31 hb_32 hb_33 hb_34 hb_35
  refine lv_iconst (v := 0) hx hb dX7_formula_13 (by decide) ?_
  refine lv_istore_n (lv' := [(3, .int 0), (0, .ref r0), (1, .ref r1), (2, .ref r2)]) hx hb dX7_formula_14 rfl hl (by decide) rfl (fun ls hl => ?_)
  have L15 : ∀ (N : Nat) (Gx_5 : jT) (zcx_5 : Nat) (zsx_5 : Nat) (v3_5 : Int32) (wc_5 : Int32) (wr_5 : Nat) (m_wr_5 : Nat) (H_5 : Heap) (locs_5 : List Loc), jSt (dC, dI) B base G0 Gx_5 EX7_formula s.heap zcx_5 zsx_5 [(r2, 2, 1, .int wc_5), (r2, 2, 0, .ref wr_5)] [] [([(2, 0), (2, 1)], jOw (dC, dI) G0 2 r2 s.heap)] H_5 locs_5 → (jNk [0, 1, 2, 3, 4, 5, 6, 7, 8, 9, 10, 11, 12, 13, 14, 15, 16, 17, 175]) G0 Gx_5 → jLe G0 Gx_5 → Gx_5 wr_5 = some (196, m_wr_5) → (0 ≤ wc_5.toInt ∧ wc_5.toInt ≤ m_wr_5 ∧ n_pa ≤ m_wr_5 ∧ m_wr_5 ≤ 1048576 ∧ jPw m_wr_5 ∧ zcx_5 ≤ (m_wr_5 - n_pa) / 16 ∧ zsx_5 ≤ 2 * (m_wr_5 - n_pa) ∧ 0 ≤ v3_5.toInt ∧ v3_5.toInt ≤ 800) → (800 - v3_5.toInt : Int) < N → ∀ ls : Array Slot, lv_has ls 9 [(0, .ref r0), (1, .ref r1), (2, .ref r2), (3, .int v3_5)] → W p l e R s m ([.ref r0, .ref r1, .ref r2] : List Value).toArray below meth c H_5 locs_5 zcx_5 zsx_5 Q (F0 m 15 ls []) := by
    intro N
    induction N with
    | zero => intro Gx_5 zcx_5 zsx_5 v3_5 wc_5 wr_5 m_wr_5 H_5 locs_5 hh_5 hN_5 hle_5 hg_wr_5 hi_5 hm; exact absurd hm (by omega)
    | succ N L15 =>
      intro Gx_5 zcx_5 zsx_5 v3_5 wc_5 wr_5 m_wr_5 H_5 locs_5 hh_5 hN_5 hle_5 hg_wr_5 hi_5 hm_5 ls hl
      have hg_6 := hle_5 _ _ hg_r0
      have hg_7 := hle_5 _ _ hg_r1
      have hg_8 := hle_5 _ _ hg_r2
      obtain ⟨hi_5_0, hi_5_1, hi_5_2, hi_5_3, hi_5_4, hi_5_5, hi_5_6, hi_5_7, hi_5_8⟩ := hi_5
      refine lv_iload_n hx hb dX7_formula_15 rfl (lv_at hl 3 rfl) ?_
      refine lv_sipush (v := 800) hx hb dX7_formula_16 (by decide) ?_
      refine lv_icmp_ge (tgt := 292) hx hb dX7_formula_19 (by decide) (fun c_9 => ?_) (fun c_9 => ?_)
      · skip
        have c_9' : v3_5.toInt ≥ 800 := jb_ge (rfl) ((by decide)) c_9
        have hsz_10 := hh_5.2.2.2.2.2.1
        have htt_10 := hh_5.2.2.2.2.2.2.1
        refine W.room (fun hrc_10 hrs_10 => ?_)
        refine W.widen (k := LC - s.heap.size) (n := LS - jTot s.heap) (by omega) (by omega) ?_
        rw [hQ]
        exact W.vret hx hb hr (fun t ht hW => ⟨⟨(wc_5, wr_5, m_wr_5, Gx_5), rfl, by (try dsimp only); exact ⟨(by first | omega | rfl | assumption | fail), (by first | omega | rfl | assumption | fail), (by first | omega | rfl | assumption | fail), (by first | omega | rfl | assumption | fail), (by first | assumption | fail | omega)⟩, ⟨hh_5.ra (by first | omega | (simp only; omega)) (by first | omega | (simp only; omega)) (M1 := [(r2, 2, 1, .int wc_5), (r2, 2, 0, .ref wr_5)]) [0, 1] rfl ht, hg_wr_5, hN_5, by rw [ht]; exact hh_5.iv 0 rfl⟩⟩, by rw [ht]; try exact hh_5.1.1, fun q h9 hq => by rw [ht]; try exact hh_5.1.2.1 q h9 hq⟩) hh_5.1.2.2 dX7_formula_292
      · skip
        have c_9' : v3_5.toInt < 800 := jb_ge_n (rfl) ((by decide)) c_9
        obtain ⟨f_l1_11, hh_11⟩ := hh_5.cpin hB280 (by decide) (by decide) hg_7
        clear hh_5
        refine lv_aload_n hx hb dX7_formula_22 rfl (lv_at hl 0 rfl) ?_
        obtain ⟨v_12, hv_12, hh_13⟩ := hh_11.pin (C := RX7) (T := TX7) (N := 5) hB9 rfl (by decide) hg_6 (i := 2) (by decide) rfl
        clear hh_11
        obtain ⟨height_14, rfl, hloheight_14, hhiheight_14⟩ := hv_12
        refine j7_read hx hb hown hK (C := RX7) (T := TX7) (N := 5) rfl hly_9_2 hlk_103 (hh_13.at 0 rfl) dX7_formula_23 ?_
        refine lv_if_le (tgt := 292) hx hb dX7_formula_26 (by decide) (fun c_15 => ?_) (fun c_15 => ?_)
        · skip
          have c_15' : height_14.toInt ≤ 0 := jb_le (rfl) ((by decide)) c_15
          have hsz_16 := hh_13.2.2.2.2.2.1
          have htt_16 := hh_13.2.2.2.2.2.2.1
          refine W.room (fun hrc_16 hrs_16 => ?_)
          refine W.widen (k := LC - s.heap.size) (n := LS - jTot s.heap) (by omega) (by omega) ?_
          rw [hQ]
          exact W.vret hx hb hr (fun t ht hW => ⟨⟨(wc_5, wr_5, m_wr_5, Gx_5), rfl, by (try dsimp only); exact ⟨(by first | omega | rfl | assumption | fail), (by first | omega | rfl | assumption | fail), (by first | omega | rfl | assumption | fail), (by first | omega | rfl | assumption | fail), (by first | assumption | fail | omega)⟩, ⟨hh_13.ra (by first | omega | (simp only; omega)) (by first | omega | (simp only; omega)) (M1 := [(r2, 2, 1, .int wc_5), (r2, 2, 0, .ref wr_5)]) [1, 2] rfl ht, hg_wr_5, hN_5, by rw [ht]; exact hh_13.iv 0 rfl⟩⟩, by rw [ht]; try exact hh_13.1.1, fun q h9 hq => by rw [ht]; try exact hh_13.1.2.1 q h9 hq⟩) hh_13.1.2.2 dX7_formula_292
        · skip
          have c_15' : height_14.toInt > 0 := jb_le_n (rfl) ((by decide)) c_15
          refine lv_aload_n hx hb dX7_formula_29 rfl (lv_at hl 0 rfl) ?_
          refine lv_dup hx hb dX7_formula_30 rfl ?_
          refine j7_read hx hb hown hK (C := RX7) (T := TX7) (N := 5) rfl hly_9_2 hlk_103 (hh_13.at 0 rfl) dX7_formula_31 ?_
          refine lv_iconst (v := 1) hx hb dX7_formula_34 (by decide) ?_
          refine lv_isub hx hb dX7_formula_35 ?_
          refine lv_topi (fun z_17 ez_17 => ?_)
          have hz_17 : z_17.toInt = height_14.toInt - 1 := by rw [ez_17]; exact jb_isub2 (rfl) ((by decide)) (by omega)
          refine j7_put hx hb hown hK hh_13 hB hAp hB9 (C := RX7) (T := TX7) (N := 5) rfl (by decide) hg_6 (i := 2) (by decide) hly_9_2 rfl hlk_103 rfl (ty := .int) (v := .int z_17) (by decide +kernel) rfl rfl (⟨_, rfl, by omega, by omega⟩) rfl (L1 := [(r2, 2, 1, .int wc_5), (r2, 2, 0, .ref wr_5)]) [1, 2] rfl rfl rfl dX7_formula_36 (fun H_18 locs_18 hh_18 => ?_)
          clear hh_13
          obtain ⟨v_19, hv_19, hh_20⟩ := hh_18.pin (C := RX7) (T := TX7) (N := 5) hB9 rfl (by decide) hg_6 (i := 1) (by decide) rfl
          obtain ⟨stack_21, rfl, hg_stack_21⟩ := hv_19
          obtain ⟨f_stack_22, hh_22⟩ := hh_20.cpin hB286 (by decide) (by decide) hg_stack_21
          clear hh_20
          refine lv_aload_n hx hb dX7_formula_39 rfl (lv_at hl 0 rfl) ?_
          refine j7_read hx hb hown hK (C := RX7) (T := TX7) (N := 5) rfl hly_9_1 hlk_11 (hh_22.at 0 rfl) dX7_formula_40 ?_
          refine lv_aload_n hx hb dX7_formula_43 rfl (lv_at hl 0 rfl) ?_
          refine j7_read hx hb hown hK (C := RX7) (T := TX7) (N := 5) rfl hly_9_2 hlk_103 (hh_22.at 1 rfl) dX7_formula_44 ?_
          refine j7_ialdM hx hb hK hh_22 hB286 1 rfl (by decide) hg_stack_21 (x := z_17.toInt) (rfl) (by omega) (j := 0) rfl dX7_formula_47 (fun z_23 ez_23 (hz_23 : (0 ≤ z_23.toInt ∨ z_23.toInt = -3)) => ?_)
          have hqz_23 : z_23.toInt = jSo f_stack_22 ((height_14.toInt - 1)) := by unfold jSo; rw [ez_23, show z_17.toInt = (height_14.toInt - 1) by omega]
          refine lv_iconst (v := 3) hx hb dX7_formula_48 (by decide) ?_
          refine lv_iand hx hb dX7_formula_49 ?_
          refine lv_topi (fun z_24 ez_24 => ?_)
          have hz_24 : 0 ≤ z_24.toInt ∧ z_24.toInt ≤ 3 := by rw [ez_24]; exact jb_and z_23 (m := 3) (k := 2) (by decide) (by decide)
          have hbz_24 : z_24.toInt = z_23.toInt % 4 := by rw [ez_24, jb_and3]
          refine lv_istore (lv' := [(4, .int z_24), (0, .ref r0), (1, .ref r1), (2, .ref r2), (3, .int v3_5)]) hx hb dX7_formula_50 hl (by decide) rfl (fun ls hl => ?_)
          refine lv_aload_n hx hb dX7_formula_52 rfl (lv_at hl 1 rfl) ?_
          refine j7_read hx hb hown hK (C := RX7) (T := TX7) (N := 5) rfl hly_9_1 hlk_11 (hh_22.at 0 rfl) dX7_formula_53 ?_
          refine lv_aload_n hx hb dX7_formula_56 rfl (lv_at hl 1 rfl) ?_
          refine j7_read hx hb hown hK (C := RX7) (T := TX7) (N := 5) rfl hly_9_2 hlk_103 (hh_22.at 1 rfl) dX7_formula_57 ?_
          refine j7_ialdM hx hb hK hh_22 hB286 1 rfl (by decide) hg_stack_21 (x := z_17.toInt) (rfl) (by omega) (j := 0) rfl dX7_formula_60 (fun z_25 ez_25 (hz_25 : (0 ≤ z_25.toInt ∨ z_25.toInt = -3)) => ?_)
          have hqz_25 : z_25.toInt = jSo f_stack_22 ((height_14.toInt - 1)) := by unfold jSo; rw [ez_25, show z_17.toInt = (height_14.toInt - 1) by omega]
          refine lv_iconst (v := 2) hx hb dX7_formula_61 (by decide) ?_
          refine lv_ishr hx hb dX7_formula_62 ?_
          refine lv_topi (fun z_26 ez_26 => ?_)
          have hz_26 : z_26.toInt = z_25.toInt / 2 ^ 2 := by rw [ez_26]; exact jb_ishr 2 (rfl) (by decide)
          have hbz_26 := jb_rng z_25
          refine lv_istore (lv' := [(5, .int z_26), (4, .int z_24), (0, .ref r0), (1, .ref r1), (2, .ref r2), (3, .int v3_5)]) hx hb dX7_formula_63 hl (by decide) rfl (fun ls hl => ?_)
          refine lv_iload hx hb dX7_formula_65 (lv_at hl 0 rfl) ?_
          refine lv_sipush (v := 255) hx hb dX7_formula_67 (by decide) ?_
          refine lv_iand hx hb dX7_formula_70 ?_
          refine lv_topi (fun z_27 ez_27 => ?_)
          have hz_27 : 0 ≤ z_27.toInt ∧ z_27.toInt ≤ 255 := by rw [ez_27]; exact jb_and z_26 (m := 255) (k := 8) (by decide) (by decide)
          have hbz_27 : 0 ≤ z_26.toInt → (0 ≤ z_27.toInt ∧ z_27.toInt ≤ z_26.toInt) := fun h9 => by have h8 := jb_and0 ez_27 (by omega); omega
          refine lv_istore (lv' := [(6, .int z_27), (5, .int z_26), (4, .int z_24), (0, .ref r0), (1, .ref r1), (2, .ref r2), (3, .int v3_5)]) hx hb dX7_formula_71 hl (by decide) rfl (fun ls hl => ?_)
          refine lv_iload hx hb dX7_formula_73 (lv_at hl 2 rfl) ?_
          refine lv_iconst (v := 2) hx hb dX7_formula_75 (by decide) ?_
          have C97 : ∀ (w0_28 : Int32) (H_28 : Heap) (locs_28 : List Loc), jSt (dC, dI) B base G0 Gx_5 EX7_formula s.heap zcx_5 zsx_5 [(r0, 9, 1, .ref stack_21), (r0, 9, 2, .int z_17), (r2, 2, 1, .int wc_5), (r2, 2, 0, .ref wr_5)] [(stack_21, 286, 800, ca 1, f_stack_22), (r1, 280, n1, ca 1, f_l1_11)] [([(2, 0), (2, 1)], jOw (dC, dI) G0 2 r2 s.heap)] H_28 locs_28 → (0 ≤ w0_28.toInt ∧ w0_28.toInt ≤ 15 ∧ (w0_28.toInt = 0 ∨ (z_27.toInt < n1 ∧ z_24.toInt = 2 ∧ w0_28.toInt = jSo f_l1_11 z_27.toInt % 16 ∧ -1 ≤ jSo f_l1_11 z_27.toInt))) → ∀ ls : Array Slot, lv_has ls 9 [(0, .ref r0), (1, .ref r1), (2, .ref r2), (3, .int v3_5), (4, .int z_24), (5, .int z_26), (6, .int z_27)] → W p l e R s m ([.ref r0, .ref r1, .ref r2] : List Value).toArray below meth c H_28 locs_28 zcx_5 zsx_5 Q (F0 m 97 ls [.int w0_28]) := by
            intro w0_28 H_28 locs_28 hh_28  hi_28 ls hl
            obtain ⟨hi_28_0, hi_28_1, hi_28_2⟩ := hi_28
            refine lv_istore (lv' := [(7, .int w0_28), (0, .ref r0), (1, .ref r1), (2, .ref r2), (3, .int v3_5), (4, .int z_24), (5, .int z_26), (6, .int z_27)]) hx hb dX7_formula_97 hl (by decide) rfl (fun ls hl => ?_)
            refine lv_iload hx hb dX7_formula_99 (lv_at hl 0 rfl) ?_
            refine lv_iconst (v := 5) hx hb dX7_formula_101 (by decide) ?_
            have C117 : ∀ (w0_29 : Int32) (H_29 : Heap) (locs_29 : List Loc), jSt (dC, dI) B base G0 Gx_5 EX7_formula s.heap zcx_5 zsx_5 [(r0, 9, 1, .ref stack_21), (r0, 9, 2, .int z_17), (r2, 2, 1, .int wc_5), (r2, 2, 0, .ref wr_5)] [(stack_21, 286, 800, ca 1, f_stack_22), (r1, 280, n1, ca 1, f_l1_11)] [([(2, 0), (2, 1)], jOw (dC, dI) G0 2 r2 s.heap)] H_29 locs_29 → (w0_29 = 0 ∨ w0_29 = 1) → (w0_29.toInt = 0 ∨ w0_28.toInt = 5 ∨ w0_28.toInt = 6) → ∀ ls : Array Slot, lv_has ls 9 [(0, .ref r0), (1, .ref r1), (2, .ref r2), (3, .int v3_5), (4, .int z_24), (5, .int z_26), (6, .int z_27), (7, .int w0_28)] → W p l e R s m ([.ref r0, .ref r1, .ref r2] : List Value).toArray below meth c H_29 locs_29 zcx_5 zsx_5 Q (F0 m 117 ls [.int w0_29]) := by
              intro w0_29 H_29 locs_29 hh_29 hb_w0_29 hi_29 ls hl
              have hb_w0_29' := jb_01 hb_w0_29
              refine lv_istore (lv' := [(8, .int w0_29), (0, .ref r0), (1, .ref r1), (2, .ref r2), (3, .int v3_5), (4, .int z_24), (5, .int z_26), (6, .int z_27), (7, .int w0_28)]) hx hb dX7_formula_117 hl (by decide) rfl (fun ls hl => ?_)
              refine lv_iload hx hb dX7_formula_119 (lv_at hl 5 rfl) ?_
              refine lv_if_ne (tgt := 136) hx hb dX7_formula_121 (by decide) (fun c_30 => ?_) (fun c_30 => ?_)
              · skip
                have c_30' : z_24.toInt ≠ 0 := jb_ne (rfl) ((by decide)) c_30
                refine lv_iload hx hb dX7_formula_136 (lv_at hl 5 rfl) ?_
                refine lv_iconst (v := 1) hx hb dX7_formula_138 (by decide) ?_
                refine lv_icmp_ne (tgt := 163) hx hb dX7_formula_139 (by decide) (fun c_31 => ?_) (fun c_31 => ?_)
                · skip
                  have c_31' : z_24.toInt ≠ 1 := jb_ne (rfl) ((by decide)) c_31
                  refine lv_iload hx hb dX7_formula_163 (lv_at hl 6 rfl) ?_
                  refine lv_sipush (v := 512) hx hb dX7_formula_165 (by decide) ?_
                  refine lv_iand hx hb dX7_formula_168 ?_
                  refine lv_topi (fun z_32 ez_32 => ?_)
                  refine lv_if_ne (tgt := 186) hx hb dX7_formula_169 (by decide) (fun c_33 => ?_) (fun c_33 => ?_)
                  · skip
                    have c_33' : z_32.toInt ≠ 0 := jb_ne (rfl) ((by decide)) c_33
                    refine lv_aload_n hx hb dX7_formula_186 rfl (lv_at hl 1 rfl) ?_
                    refine lv_iconst (v := 0) hx hb dX7_formula_187 (by decide) ?_
                    refine lv_bipush (v := 16) hx hb dX7_formula_188 (by decide) ?_
                    have hsz_34 := hh_29.2.2.2.2.2.1
                    have htt_34 := hh_29.2.2.2.2.2.2.1
                    refine W.room (fun hrc_34 hrs_34 => ?_)
                    refine va_callv (A0 := jA base) (H0 := s.heap) (va_runV (As := [.int 0, .int 16]) (rest := []) ⟨hx, hb, hml, hown, hts⟩ (uX7_pushB l dC dI ca base B hB hAp hB9 hB286 Gx_5 H_29 r0 0 16) (cwV 2 hts (jgV (jWr_31 _ (List.mem_of_getElem? (i := 9) rfl)) (jWr_31 _ (List.mem_of_getElem? (i := 10) rfl)) (jWr_31 _ (List.mem_of_getElem? (i := 11) rfl)) (jWr_2 _ (List.mem_of_getElem? (i := 8) rfl)) (jWr_31 _ (List.mem_of_getElem? (i := 12) rfl))) rfl rfl rfl (by decide +kernel) ⟨by rw [← hR]; exact Nat.le_of_ble_eq_true rfl, by rw [← hR]; exact Nat.le_of_ble_eq_true rfl⟩) ⟨fun a U g mk q => by obtain ⟨q0, q1, q2, qK, q10, q11, q12⟩ := q; exact ⟨q0, q1, q2, jG.calling g mk a qK, q10, q11, q12⟩, hh_29.recv (C := RX7) (T := TX7) (N := 5) hB9 rfl (by decide) hg_6 hK, fun U hU hW => ⟨rfl, hU, hh_29.2.1, hG.step hW hU hh_29.1, hg_6, jP.nil, ⟨(by first | omega | rfl | assumption | fail), (by first | omega | rfl | assumption | fail), (by first | omega | rfl | assumption | fail)⟩⟩⟩ rfl rfl hl.1 rfl (lv_room (Nat.le_of_ble_eq_true rfl)) dX7_formula_190 ⟨by rw [hRc]; show _ + 0 ≤ _; omega, by rw [hRs]; show _ + 0 ≤ _; omega⟩) hh_29.1 (fun q _ h => h) (fun q h => h) (fun u_34 t_34 H_34 locs_34 ht_34 hvm_34 hr_35 hb_34 hz_34 hk_34 hS_34 => ?_)
                    rw [ht_34] at hb_34
                    obtain ⟨hb_341, hb_342, hb_343, hb_344, hb_345⟩ := hb_34
                    have hh_34 : jSt (dC, dI) B base G0 Gx_5 EX7_formula s.heap zcx_5 zsx_5 [(r0, 9, 1, .ref stack_21), (r2, 2, 1, .int wc_5), (r2, 2, 0, .ref wr_5)] [(r1, 280, n1, ca 1, f_l1_11)] [([(2, 0), (2, 1)], jOw (dC, dI) G0 2 r2 s.heap)] H_34 locs_34 := ((hh_29.call hb_341 hb_342 hb_343 hb_344 hS_34 rfl (L1 := [(r0, 9, 1, .ref stack_21), (r2, 2, 1, .int wc_5), (r2, 2, 0, .ref wr_5)]) [0, 2, 3] rfl rfl (M1 := [(r1, 280, n1, ca 1, f_l1_11)]) [1] rfl rfl (I1 := [([(2, 0), (2, 1)], jOw (dC, dI) G0 2 r2 s.heap)]) [0] rfl rfl).more hb_345)
                    clear hh_29 ht_34 hvm_34 hz_34 hk_34 hS_34 hb_341 hb_342 hb_343 hb_344 hb_345
                    refine lv_aload_n hx hb dX7_formula_193 rfl (lv_at hl 1 rfl) ?_
                    refine lv_iconst (v := 2) hx hb dX7_formula_194 (by decide) ?_
                    refine lv_iload hx hb dX7_formula_195 (lv_at hl 6 rfl) ?_
                    refine lv_sipush (v := (-513)) hx hb dX7_formula_197 (by decide) ?_
                    refine lv_iand hx hb dX7_formula_200 ?_
                    refine lv_topi (fun z_36 ez_36 => ?_)
                    have hbz_36 := jb_and0 ez_36 (by omega)
                    refine lv_sipush (v := 256) hx hb dX7_formula_201 (by decide) ?_
                    refine lv_ior hx hb dX7_formula_204 ?_
                    refine lv_topi (fun z_37 ez_37 => ?_)
                    have hbz_37 := jb_or29 ez_37 (by omega) (by omega) (by omega) (by omega)
                    have hsz_38 := hh_34.2.2.2.2.2.1
                    have htt_38 := hh_34.2.2.2.2.2.2.1
                    refine W.room (fun hrc_38 hrs_38 => ?_)
                    refine va_callv (A0 := jA base) (H0 := s.heap) (va_runV (As := [.int 2, .int z_37]) (rest := []) ⟨hx, hb, hml, hown, hts⟩ (uX7_pushB l dC dI ca base B hB hAp hB9 hB286 Gx_5 H_34 r0 2 z_37) (cwV 2 hts (jgV (jWr_31 _ (List.mem_of_getElem? (i := 9) rfl)) (jWr_31 _ (List.mem_of_getElem? (i := 10) rfl)) (jWr_31 _ (List.mem_of_getElem? (i := 11) rfl)) (jWr_2 _ (List.mem_of_getElem? (i := 8) rfl)) (jWr_31 _ (List.mem_of_getElem? (i := 12) rfl))) rfl rfl rfl (by decide +kernel) ⟨by rw [← hR]; exact Nat.le_of_ble_eq_true rfl, by rw [← hR]; exact Nat.le_of_ble_eq_true rfl⟩) ⟨fun a U g mk q => by obtain ⟨q0, q1, q2, qK, q10, q11, q12⟩ := q; exact ⟨q0, q1, q2, jG.calling g mk a qK, q10, q11, q12⟩, hh_34.recv (C := RX7) (T := TX7) (N := 5) hB9 rfl (by decide) hg_6 hK, fun U hU hW => ⟨rfl, hU, hh_34.2.1, hG.step hW hU hh_34.1, hg_6, jP.nil, ⟨(by first | omega | rfl | assumption | fail), (by first | omega | rfl | assumption | fail), (by first | omega | rfl | assumption | fail)⟩⟩⟩ rfl rfl hl.1 rfl (lv_room (Nat.le_of_ble_eq_true rfl)) dX7_formula_205 ⟨by rw [hRc]; show _ + 0 ≤ _; omega, by rw [hRs]; show _ + 0 ≤ _; omega⟩) hh_34.1 (fun q _ h => h) (fun q h => h) (fun u_38 t_38 H_38 locs_38 ht_38 hvm_38 hr_39 hb_38 hz_38 hk_38 hS_38 => ?_)
                    rw [ht_38] at hb_38
                    obtain ⟨hb_381, hb_382, hb_383, hb_384, hb_385⟩ := hb_38
                    have hh_38 : jSt (dC, dI) B base G0 Gx_5 EX7_formula s.heap zcx_5 zsx_5 [(r0, 9, 1, .ref stack_21), (r2, 2, 1, .int wc_5), (r2, 2, 0, .ref wr_5)] [(r1, 280, n1, ca 1, f_l1_11)] [([(2, 0), (2, 1)], jOw (dC, dI) G0 2 r2 s.heap)] H_38 locs_38 := ((hh_34.call hb_381 hb_382 hb_383 hb_384 hS_38 rfl (L1 := [(r0, 9, 1, .ref stack_21), (r2, 2, 1, .int wc_5), (r2, 2, 0, .ref wr_5)]) [0, 1, 2] rfl rfl (M1 := [(r1, 280, n1, ca 1, f_l1_11)]) [0] rfl rfl (I1 := [([(2, 0), (2, 1)], jOw (dC, dI) G0 2 r2 s.heap)]) [0] rfl rfl).more hb_385)
                    clear hh_34 ht_38 hvm_38 hz_38 hk_38 hS_38 hb_381 hb_382 hb_383 hb_384 hb_385
                    refine lv_aload_n hx hb dX7_formula_208 rfl (lv_at hl 1 rfl) ?_
                    refine lv_iconst (v := 0) hx hb dX7_formula_209 (by decide) ?_
                    refine lv_bipush (v := 17) hx hb dX7_formula_210 (by decide) ?_
                    have hsz_40 := hh_38.2.2.2.2.2.1
                    have htt_40 := hh_38.2.2.2.2.2.2.1
                    refine W.room (fun hrc_40 hrs_40 => ?_)
                    refine va_callv (A0 := jA base) (H0 := s.heap) (va_runV (As := [.int 0, .int 17]) (rest := []) ⟨hx, hb, hml, hown, hts⟩ (uX7_pushB l dC dI ca base B hB hAp hB9 hB286 Gx_5 H_38 r0 0 17) (cwV 2 hts (jgV (jWr_31 _ (List.mem_of_getElem? (i := 9) rfl)) (jWr_31 _ (List.mem_of_getElem? (i := 10) rfl)) (jWr_31 _ (List.mem_of_getElem? (i := 11) rfl)) (jWr_2 _ (List.mem_of_getElem? (i := 8) rfl)) (jWr_31 _ (List.mem_of_getElem? (i := 12) rfl))) rfl rfl rfl (by decide +kernel) ⟨by rw [← hR]; exact Nat.le_of_ble_eq_true rfl, by rw [← hR]; exact Nat.le_of_ble_eq_true rfl⟩) ⟨fun a U g mk q => by obtain ⟨q0, q1, q2, qK, q10, q11, q12⟩ := q; exact ⟨q0, q1, q2, jG.calling g mk a qK, q10, q11, q12⟩, hh_38.recv (C := RX7) (T := TX7) (N := 5) hB9 rfl (by decide) hg_6 hK, fun U hU hW => ⟨rfl, hU, hh_38.2.1, hG.step hW hU hh_38.1, hg_6, jP.nil, ⟨(by first | omega | rfl | assumption | fail), (by first | omega | rfl | assumption | fail), (by first | omega | rfl | assumption | fail)⟩⟩⟩ rfl rfl hl.1 rfl (lv_room (Nat.le_of_ble_eq_true rfl)) dX7_formula_212 ⟨by rw [hRc]; show _ + 0 ≤ _; omega, by rw [hRs]; show _ + 0 ≤ _; omega⟩) hh_38.1 (fun q _ h => h) (fun q h => h) (fun u_40 t_40 H_40 locs_40 ht_40 hvm_40 hr_41 hb_40 hz_40 hk_40 hS_40 => ?_)
                    rw [ht_40] at hb_40
                    obtain ⟨hb_401, hb_402, hb_403, hb_404, hb_405⟩ := hb_40
                    have hh_40 : jSt (dC, dI) B base G0 Gx_5 EX7_formula s.heap zcx_5 zsx_5 [(r0, 9, 1, .ref stack_21), (r2, 2, 1, .int wc_5), (r2, 2, 0, .ref wr_5)] [(r1, 280, n1, ca 1, f_l1_11)] [([(2, 0), (2, 1)], jOw (dC, dI) G0 2 r2 s.heap)] H_40 locs_40 := ((hh_38.call hb_401 hb_402 hb_403 hb_404 hS_40 rfl (L1 := [(r0, 9, 1, .ref stack_21), (r2, 2, 1, .int wc_5), (r2, 2, 0, .ref wr_5)]) [0, 1, 2] rfl rfl (M1 := [(r1, 280, n1, ca 1, f_l1_11)]) [0] rfl rfl (I1 := [([(2, 0), (2, 1)], jOw (dC, dI) G0 2 r2 s.heap)]) [0] rfl rfl).more hb_405)
                    clear hh_38 ht_40 hvm_40 hz_40 hk_40 hS_40 hb_401 hb_402 hb_403 hb_404 hb_405
                    refine lv_goto (tgt := 286) hx hb dX7_formula_215 (by decide) ?_
                    obtain ⟨z_42, ez_42⟩ : ∃ y : Int32, y = v3_5 + 1 := ⟨_, rfl⟩
                    refine lv_iinc (v := z_42) (lv' := [(3, .int z_42), (8, .int w0_29), (0, .ref r0), (1, .ref r1), (2, .ref r2), (4, .int z_24), (5, .int z_26), (6, .int z_27), (7, .int w0_28)]) hx hb dX7_formula_286 hl (k := 4) rfl (by rw [ez_42]; rfl) (by decide) rfl (fun ls hl => ?_)
                    have hz_42 : z_42.toInt = v3_5.toInt + 1 := by rw [ez_42]; exact jb_iadd2 (rfl) (by decide) (by omega)
                    refine lv_goto (tgt := 15) hx hb dX7_formula_289 (by decide) ?_
                    refine W.tight (c2 := zcx_5) (n2 := zsx_5) hh_40.2.2.2.2.2.1 hh_40.2.2.2.2.2.2.1 ?_
                    exact L15 Gx_5 zcx_5 zsx_5 z_42 wc_5 wr_5 m_wr_5 _ _ (hh_40.sub (L1 := [(r2, 2, 1, .int wc_5), (r2, 2, 0, .ref wr_5)]) [1, 2] rfl (M1 := []) [] rfl (I1 := [([(2, 0), (2, 1)], jOw (dC, dI) G0 2 r2 s.heap)]) [0] rfl) (hN_5) (hle_5) hg_wr_5 (⟨(by first | omega | rfl | assumption | fail), (by first | omega | rfl | assumption | fail), (by first | omega | rfl | assumption | fail), (by first | omega | rfl | assumption | fail), (by first | assumption | fail | omega), (by first | omega | rfl | assumption | fail), (by first | omega | rfl | assumption | fail), (by first | omega | rfl | assumption | fail), (by first | omega | rfl | assumption | fail)⟩) (by omega) _ (lv_sub hl [2, 3, 4, 0] rfl)
                  · skip
                    have c_33' : z_32.toInt = 0 := jb_ne_n (rfl) ((by decide)) c_33
                    refine lv_iload hx hb dX7_formula_172 (lv_at hl 0 rfl) ?_
                    refine lv_if_eq (tgt := 218) hx hb dX7_formula_174 (by decide) (fun c_43 => ?_) (fun c_43 => ?_)
                    · skip
                      have c_43' : w0_29.toInt = 0 := jb_eq (rfl) ((by decide)) c_43
                      refine lv_iload hx hb dX7_formula_218 (lv_at hl 0 rfl) ?_
                      refine lv_if_eq (tgt := 238) hx hb dX7_formula_220 (by decide) (fun c_44 => ?_) (fun c_44 => ?_)
                      · skip
                        have c_44' : w0_29.toInt = 0 := jb_eq (rfl) ((by decide)) c_44
                        refine lv_iload hx hb dX7_formula_238 (lv_at hl 8 rfl) ?_
                        refine lv_iconst (v := 1) hx hb dX7_formula_240 (by decide) ?_
                        refine lv_icmp_lt (tgt := 265) hx hb dX7_formula_241 (by decide) (fun c_45 => ?_) (fun c_45 => ?_)
                        · skip
                          have c_45' : w0_28.toInt < 1 := jb_lt (rfl) ((by decide)) c_45
                          refine lv_iload hx hb dX7_formula_265 (lv_at hl 8 rfl) ?_
                          refine lv_if_ne (tgt := 279) hx hb dX7_formula_267 (by decide) (fun c_46 => ?_) (fun c_46 => ?_)
                          · skip
                            have c_46' : w0_28.toInt ≠ 0 := jb_ne (rfl) ((by decide)) c_46
                            refine lv_aload_n hx hb dX7_formula_279 rfl (lv_at hl 1 rfl) ?_
                            refine lv_aload_n hx hb dX7_formula_280 rfl (lv_at hl 2 rfl) ?_
                            refine lv_iload hx hb dX7_formula_281 (lv_at hl 7 rfl) ?_
                            have hsz_47 := hh_29.2.2.2.2.2.1
                            have htt_47 := hh_29.2.2.2.2.2.2.1
                            refine W.room (fun hrc_47 hrs_47 => ?_)
                            refine va_callv (A0 := jA base) (H0 := s.heap) (va_runV (As := [.ref r1, .int z_27]) (rest := []) ⟨hx, hb, hml, hown, hts⟩ (uX7_pushTermB l dC dI ca base B hB hAp hB9 hB280 hB286 hB287 hB288 Gx_5 H_29 r0 r1 z_27 n1) (cwV 2 hts (jgV (jWr_32 _ (List.mem_of_getElem? (i := 16) rfl)) (jWr_32 _ (List.mem_of_getElem? (i := 17) rfl)) (jWr_32 _ (List.mem_of_getElem? (i := 18) rfl)) (jWr_2 _ (List.mem_of_getElem? (i := 8) rfl)) (jWr_32 _ (List.mem_of_getElem? (i := 19) rfl))) rfl rfl rfl (by decide +kernel) ⟨by rw [← hR]; exact Nat.le_of_ble_eq_true rfl, by rw [← hR]; exact Nat.le_of_ble_eq_true rfl⟩) ⟨fun a U g mk q => by obtain ⟨q0, q1, q2, qK, q10, q11, q12, q13⟩ := q; exact ⟨q0, q1, q2, jG.calling g mk a qK, q10, q11, q12, q13⟩, hh_29.recv (C := RX7) (T := TX7) (N := 5) hB9 rfl (by decide) hg_6 hK, fun U hU hW => ⟨rfl, hU, hh_29.2.1, hG.step hW hU hh_29.1, hg_7, hg_6, jP.nil, ⟨(by first | omega | rfl | assumption | fail), (by first | omega | rfl | assumption | fail), (by first | omega | rfl | assumption | fail)⟩⟩⟩ rfl rfl hl.1 rfl (lv_room (Nat.le_of_ble_eq_true rfl)) dX7_formula_283 ⟨by rw [hRc]; show _ + 0 ≤ _; omega, by rw [hRs]; show _ + 0 ≤ _; omega⟩) hh_29.1 (fun q _ h => h) (fun q h => h) (fun u_47 t_47 H_47 locs_47 ht_47 hvm_47 hr_48 hb_47 hz_47 hk_47 hS_47 => ?_)
                            rw [ht_47] at hb_47
                            obtain ⟨hb_471, hb_472, hb_473, hb_474, hb_475⟩ := hb_47
                            have hh_47 : jSt (dC, dI) B base G0 Gx_5 EX7_formula s.heap zcx_5 zsx_5 [(r0, 9, 1, .ref stack_21), (r2, 2, 1, .int wc_5), (r2, 2, 0, .ref wr_5)] [(r1, 280, n1, ca 1, f_l1_11)] [([(2, 0), (2, 1)], jOw (dC, dI) G0 2 r2 s.heap)] H_47 locs_47 := ((hh_29.call hb_471 hb_472 hb_473 hb_474 hS_47 rfl (L1 := [(r0, 9, 1, .ref stack_21), (r2, 2, 1, .int wc_5), (r2, 2, 0, .ref wr_5)]) [0, 2, 3] rfl rfl (M1 := [(r1, 280, n1, ca 1, f_l1_11)]) [1] rfl rfl (I1 := [([(2, 0), (2, 1)], jOw (dC, dI) G0 2 r2 s.heap)]) [0] rfl rfl).more hb_475)
                            clear hh_29 ht_47 hvm_47 hz_47 hk_47 hS_47 hb_471 hb_472 hb_473 hb_474 hb_475
                            obtain ⟨z_49, ez_49⟩ : ∃ y : Int32, y = v3_5 + 1 := ⟨_, rfl⟩
                            refine lv_iinc (v := z_49) (lv' := [(3, .int z_49), (8, .int w0_29), (0, .ref r0), (1, .ref r1), (2, .ref r2), (4, .int z_24), (5, .int z_26), (6, .int z_27), (7, .int w0_28)]) hx hb dX7_formula_286 hl (k := 4) rfl (by rw [ez_49]; rfl) (by decide) rfl (fun ls hl => ?_)
                            have hz_49 : z_49.toInt = v3_5.toInt + 1 := by rw [ez_49]; exact jb_iadd2 (rfl) (by decide) (by omega)
                            refine lv_goto (tgt := 15) hx hb dX7_formula_289 (by decide) ?_
                            refine W.tight (c2 := zcx_5) (n2 := zsx_5) hh_47.2.2.2.2.2.1 hh_47.2.2.2.2.2.2.1 ?_
                            exact L15 Gx_5 zcx_5 zsx_5 z_49 wc_5 wr_5 m_wr_5 _ _ (hh_47.sub (L1 := [(r2, 2, 1, .int wc_5), (r2, 2, 0, .ref wr_5)]) [1, 2] rfl (M1 := []) [] rfl (I1 := [([(2, 0), (2, 1)], jOw (dC, dI) G0 2 r2 s.heap)]) [0] rfl) (hN_5) (hle_5) hg_wr_5 (⟨(by first | omega | rfl | assumption | fail), (by first | omega | rfl | assumption | fail), (by first | omega | rfl | assumption | fail), (by first | omega | rfl | assumption | fail), (by first | assumption | fail | omega), (by first | omega | rfl | assumption | fail), (by first | omega | rfl | assumption | fail), (by first | omega | rfl | assumption | fail), (by first | omega | rfl | assumption | fail)⟩) (by omega) _ (lv_sub hl [2, 3, 4, 0] rfl)
                          · skip
                            have c_46' : w0_28.toInt = 0 := jb_ne_n (rfl) ((by decide)) c_46
                            refine lv_aload_n hx hb dX7_formula_270 rfl (lv_at hl 1 rfl) ?_
                            refine lv_iconst (v := 0) hx hb dX7_formula_271 (by decide) ?_
                            refine lv_iconst (v := 0) hx hb dX7_formula_272 (by decide) ?_
                            have hsz_50 := hh_29.2.2.2.2.2.1
                            have htt_50 := hh_29.2.2.2.2.2.2.1
                            refine W.room (fun hrc_50 hrs_50 => ?_)
                            refine va_callv (A0 := jA base) (H0 := s.heap) (va_runV (As := [.int 0, .int 0]) (rest := []) ⟨hx, hb, hml, hown, hts⟩ (uX7_pushB l dC dI ca base B hB hAp hB9 hB286 Gx_5 H_29 r0 0 0) (cwV 2 hts (jgV (jWr_31 _ (List.mem_of_getElem? (i := 9) rfl)) (jWr_31 _ (List.mem_of_getElem? (i := 10) rfl)) (jWr_31 _ (List.mem_of_getElem? (i := 11) rfl)) (jWr_2 _ (List.mem_of_getElem? (i := 8) rfl)) (jWr_31 _ (List.mem_of_getElem? (i := 12) rfl))) rfl rfl rfl (by decide +kernel) ⟨by rw [← hR]; exact Nat.le_of_ble_eq_true rfl, by rw [← hR]; exact Nat.le_of_ble_eq_true rfl⟩) ⟨fun a U g mk q => by obtain ⟨q0, q1, q2, qK, q10, q11, q12⟩ := q; exact ⟨q0, q1, q2, jG.calling g mk a qK, q10, q11, q12⟩, hh_29.recv (C := RX7) (T := TX7) (N := 5) hB9 rfl (by decide) hg_6 hK, fun U hU hW => ⟨rfl, hU, hh_29.2.1, hG.step hW hU hh_29.1, hg_6, jP.nil, ⟨(by first | omega | rfl | assumption | fail), (by first | omega | rfl | assumption | fail), (by first | omega | rfl | assumption | fail)⟩⟩⟩ rfl rfl hl.1 rfl (lv_room (Nat.le_of_ble_eq_true rfl)) dX7_formula_273 ⟨by rw [hRc]; show _ + 0 ≤ _; omega, by rw [hRs]; show _ + 0 ≤ _; omega⟩) hh_29.1 (fun q _ h => h) (fun q h => h) (fun u_50 t_50 H_50 locs_50 ht_50 hvm_50 hr_51 hb_50 hz_50 hk_50 hS_50 => ?_)
                            rw [ht_50] at hb_50
                            obtain ⟨hb_501, hb_502, hb_503, hb_504, hb_505⟩ := hb_50
                            have hh_50 : jSt (dC, dI) B base G0 Gx_5 EX7_formula s.heap zcx_5 zsx_5 [(r0, 9, 1, .ref stack_21), (r2, 2, 1, .int wc_5), (r2, 2, 0, .ref wr_5)] [(r1, 280, n1, ca 1, f_l1_11)] [([(2, 0), (2, 1)], jOw (dC, dI) G0 2 r2 s.heap)] H_50 locs_50 := ((hh_29.call hb_501 hb_502 hb_503 hb_504 hS_50 rfl (L1 := [(r0, 9, 1, .ref stack_21), (r2, 2, 1, .int wc_5), (r2, 2, 0, .ref wr_5)]) [0, 2, 3] rfl rfl (M1 := [(r1, 280, n1, ca 1, f_l1_11)]) [1] rfl rfl (I1 := [([(2, 0), (2, 1)], jOw (dC, dI) G0 2 r2 s.heap)]) [0] rfl rfl).more hb_505)
                            clear hh_29 ht_50 hvm_50 hz_50 hk_50 hS_50 hb_501 hb_502 hb_503 hb_504 hb_505
                            refine lv_goto (tgt := 286) hx hb dX7_formula_276 (by decide) ?_
                            obtain ⟨z_52, ez_52⟩ : ∃ y : Int32, y = v3_5 + 1 := ⟨_, rfl⟩
                            refine lv_iinc (v := z_52) (lv' := [(3, .int z_52), (8, .int w0_29), (0, .ref r0), (1, .ref r1), (2, .ref r2), (4, .int z_24), (5, .int z_26), (6, .int z_27), (7, .int w0_28)]) hx hb dX7_formula_286 hl (k := 4) rfl (by rw [ez_52]; rfl) (by decide) rfl (fun ls hl => ?_)
                            have hz_52 : z_52.toInt = v3_5.toInt + 1 := by rw [ez_52]; exact jb_iadd2 (rfl) (by decide) (by omega)
                            refine lv_goto (tgt := 15) hx hb dX7_formula_289 (by decide) ?_
                            refine W.tight (c2 := zcx_5) (n2 := zsx_5) hh_50.2.2.2.2.2.1 hh_50.2.2.2.2.2.2.1 ?_
                            exact L15 Gx_5 zcx_5 zsx_5 z_52 wc_5 wr_5 m_wr_5 _ _ (hh_50.sub (L1 := [(r2, 2, 1, .int wc_5), (r2, 2, 0, .ref wr_5)]) [1, 2] rfl (M1 := []) [] rfl (I1 := [([(2, 0), (2, 1)], jOw (dC, dI) G0 2 r2 s.heap)]) [0] rfl) (hN_5) (hle_5) hg_wr_5 (⟨(by first | omega | rfl | assumption | fail), (by first | omega | rfl | assumption | fail), (by first | omega | rfl | assumption | fail), (by first | omega | rfl | assumption | fail), (by first | assumption | fail | omega), (by first | omega | rfl | assumption | fail), (by first | omega | rfl | assumption | fail), (by first | omega | rfl | assumption | fail), (by first | omega | rfl | assumption | fail)⟩) (by omega) _ (lv_sub hl [2, 3, 4, 0] rfl)
                        · skip
                          have c_45' : w0_28.toInt ≥ 1 := jb_lt_n (rfl) ((by decide)) c_45
                          refine lv_iload hx hb dX7_formula_244 (lv_at hl 8 rfl) ?_
                          refine lv_iconst (v := 4) hx hb dX7_formula_246 (by decide) ?_
                          refine lv_icmp_gt (tgt := 265) hx hb dX7_formula_247 (by decide) (fun c_53 => ?_) (fun c_53 => ?_)
                          · skip
                            have c_53' : w0_28.toInt > 4 := jb_gt (rfl) ((by decide)) c_53
                            refine lv_iload hx hb dX7_formula_265 (lv_at hl 8 rfl) ?_
                            refine lv_if_ne (tgt := 279) hx hb dX7_formula_267 (by decide) (fun c_54 => ?_) (fun c_54 => ?_)
                            · skip
                              have c_54' : w0_28.toInt ≠ 0 := jb_ne (rfl) ((by decide)) c_54
                              refine lv_aload_n hx hb dX7_formula_279 rfl (lv_at hl 1 rfl) ?_
                              refine lv_aload_n hx hb dX7_formula_280 rfl (lv_at hl 2 rfl) ?_
                              refine lv_iload hx hb dX7_formula_281 (lv_at hl 7 rfl) ?_
                              have hsz_55 := hh_29.2.2.2.2.2.1
                              have htt_55 := hh_29.2.2.2.2.2.2.1
                              refine W.room (fun hrc_55 hrs_55 => ?_)
                              refine va_callv (A0 := jA base) (H0 := s.heap) (va_runV (As := [.ref r1, .int z_27]) (rest := []) ⟨hx, hb, hml, hown, hts⟩ (uX7_pushTermB l dC dI ca base B hB hAp hB9 hB280 hB286 hB287 hB288 Gx_5 H_29 r0 r1 z_27 n1) (cwV 2 hts (jgV (jWr_32 _ (List.mem_of_getElem? (i := 16) rfl)) (jWr_32 _ (List.mem_of_getElem? (i := 17) rfl)) (jWr_32 _ (List.mem_of_getElem? (i := 18) rfl)) (jWr_2 _ (List.mem_of_getElem? (i := 8) rfl)) (jWr_32 _ (List.mem_of_getElem? (i := 19) rfl))) rfl rfl rfl (by decide +kernel) ⟨by rw [← hR]; exact Nat.le_of_ble_eq_true rfl, by rw [← hR]; exact Nat.le_of_ble_eq_true rfl⟩) ⟨fun a U g mk q => by obtain ⟨q0, q1, q2, qK, q10, q11, q12, q13⟩ := q; exact ⟨q0, q1, q2, jG.calling g mk a qK, q10, q11, q12, q13⟩, hh_29.recv (C := RX7) (T := TX7) (N := 5) hB9 rfl (by decide) hg_6 hK, fun U hU hW => ⟨rfl, hU, hh_29.2.1, hG.step hW hU hh_29.1, hg_7, hg_6, jP.nil, ⟨(by first | omega | rfl | assumption | fail), (by first | omega | rfl | assumption | fail), (by first | omega | rfl | assumption | fail)⟩⟩⟩ rfl rfl hl.1 rfl (lv_room (Nat.le_of_ble_eq_true rfl)) dX7_formula_283 ⟨by rw [hRc]; show _ + 0 ≤ _; omega, by rw [hRs]; show _ + 0 ≤ _; omega⟩) hh_29.1 (fun q _ h => h) (fun q h => h) (fun u_55 t_55 H_55 locs_55 ht_55 hvm_55 hr_56 hb_55 hz_55 hk_55 hS_55 => ?_)
                              rw [ht_55] at hb_55
                              obtain ⟨hb_551, hb_552, hb_553, hb_554, hb_555⟩ := hb_55
                              have hh_55 : jSt (dC, dI) B base G0 Gx_5 EX7_formula s.heap zcx_5 zsx_5 [(r0, 9, 1, .ref stack_21), (r2, 2, 1, .int wc_5), (r2, 2, 0, .ref wr_5)] [(r1, 280, n1, ca 1, f_l1_11)] [([(2, 0), (2, 1)], jOw (dC, dI) G0 2 r2 s.heap)] H_55 locs_55 := ((hh_29.call hb_551 hb_552 hb_553 hb_554 hS_55 rfl (L1 := [(r0, 9, 1, .ref stack_21), (r2, 2, 1, .int wc_5), (r2, 2, 0, .ref wr_5)]) [0, 2, 3] rfl rfl (M1 := [(r1, 280, n1, ca 1, f_l1_11)]) [1] rfl rfl (I1 := [([(2, 0), (2, 1)], jOw (dC, dI) G0 2 r2 s.heap)]) [0] rfl rfl).more hb_555)
                              clear hh_29 ht_55 hvm_55 hz_55 hk_55 hS_55 hb_551 hb_552 hb_553 hb_554 hb_555
                              obtain ⟨z_57, ez_57⟩ : ∃ y : Int32, y = v3_5 + 1 := ⟨_, rfl⟩
                              refine lv_iinc (v := z_57) (lv' := [(3, .int z_57), (8, .int w0_29), (0, .ref r0), (1, .ref r1), (2, .ref r2), (4, .int z_24), (5, .int z_26), (6, .int z_27), (7, .int w0_28)]) hx hb dX7_formula_286 hl (k := 4) rfl (by rw [ez_57]; rfl) (by decide) rfl (fun ls hl => ?_)
                              have hz_57 : z_57.toInt = v3_5.toInt + 1 := by rw [ez_57]; exact jb_iadd2 (rfl) (by decide) (by omega)
                              refine lv_goto (tgt := 15) hx hb dX7_formula_289 (by decide) ?_
                              refine W.tight (c2 := zcx_5) (n2 := zsx_5) hh_55.2.2.2.2.2.1 hh_55.2.2.2.2.2.2.1 ?_
                              exact L15 Gx_5 zcx_5 zsx_5 z_57 wc_5 wr_5 m_wr_5 _ _ (hh_55.sub (L1 := [(r2, 2, 1, .int wc_5), (r2, 2, 0, .ref wr_5)]) [1, 2] rfl (M1 := []) [] rfl (I1 := [([(2, 0), (2, 1)], jOw (dC, dI) G0 2 r2 s.heap)]) [0] rfl) (hN_5) (hle_5) hg_wr_5 (⟨(by first | omega | rfl | assumption | fail), (by first | omega | rfl | assumption | fail), (by first | omega | rfl | assumption | fail), (by first | omega | rfl | assumption | fail), (by first | assumption | fail | omega), (by first | omega | rfl | assumption | fail), (by first | omega | rfl | assumption | fail), (by first | omega | rfl | assumption | fail), (by first | omega | rfl | assumption | fail)⟩) (by omega) _ (lv_sub hl [2, 3, 4, 0] rfl)
                            · skip
                              have c_54' : w0_28.toInt = 0 := jb_ne_n (rfl) ((by decide)) c_54
                              refine lv_aload_n hx hb dX7_formula_270 rfl (lv_at hl 1 rfl) ?_
                              refine lv_iconst (v := 0) hx hb dX7_formula_271 (by decide) ?_
                              refine lv_iconst (v := 0) hx hb dX7_formula_272 (by decide) ?_
                              have hsz_58 := hh_29.2.2.2.2.2.1
                              have htt_58 := hh_29.2.2.2.2.2.2.1
                              refine W.room (fun hrc_58 hrs_58 => ?_)
                              refine va_callv (A0 := jA base) (H0 := s.heap) (va_runV (As := [.int 0, .int 0]) (rest := []) ⟨hx, hb, hml, hown, hts⟩ (uX7_pushB l dC dI ca base B hB hAp hB9 hB286 Gx_5 H_29 r0 0 0) (cwV 2 hts (jgV (jWr_31 _ (List.mem_of_getElem? (i := 9) rfl)) (jWr_31 _ (List.mem_of_getElem? (i := 10) rfl)) (jWr_31 _ (List.mem_of_getElem? (i := 11) rfl)) (jWr_2 _ (List.mem_of_getElem? (i := 8) rfl)) (jWr_31 _ (List.mem_of_getElem? (i := 12) rfl))) rfl rfl rfl (by decide +kernel) ⟨by rw [← hR]; exact Nat.le_of_ble_eq_true rfl, by rw [← hR]; exact Nat.le_of_ble_eq_true rfl⟩) ⟨fun a U g mk q => by obtain ⟨q0, q1, q2, qK, q10, q11, q12⟩ := q; exact ⟨q0, q1, q2, jG.calling g mk a qK, q10, q11, q12⟩, hh_29.recv (C := RX7) (T := TX7) (N := 5) hB9 rfl (by decide) hg_6 hK, fun U hU hW => ⟨rfl, hU, hh_29.2.1, hG.step hW hU hh_29.1, hg_6, jP.nil, ⟨(by first | omega | rfl | assumption | fail), (by first | omega | rfl | assumption | fail), (by first | omega | rfl | assumption | fail)⟩⟩⟩ rfl rfl hl.1 rfl (lv_room (Nat.le_of_ble_eq_true rfl)) dX7_formula_273 ⟨by rw [hRc]; show _ + 0 ≤ _; omega, by rw [hRs]; show _ + 0 ≤ _; omega⟩) hh_29.1 (fun q _ h => h) (fun q h => h) (fun u_58 t_58 H_58 locs_58 ht_58 hvm_58 hr_59 hb_58 hz_58 hk_58 hS_58 => ?_)
                              rw [ht_58] at hb_58
                              obtain ⟨hb_581, hb_582, hb_583, hb_584, hb_585⟩ := hb_58
                              have hh_58 : jSt (dC, dI) B base G0 Gx_5 EX7_formula s.heap zcx_5 zsx_5 [(r0, 9, 1, .ref stack_21), (r2, 2, 1, .int wc_5), (r2, 2, 0, .ref wr_5)] [(r1, 280, n1, ca 1, f_l1_11)] [([(2, 0), (2, 1)], jOw (dC, dI) G0 2 r2 s.heap)] H_58 locs_58 := ((hh_29.call hb_581 hb_582 hb_583 hb_584 hS_58 rfl (L1 := [(r0, 9, 1, .ref stack_21), (r2, 2, 1, .int wc_5), (r2, 2, 0, .ref wr_5)]) [0, 2, 3] rfl rfl (M1 := [(r1, 280, n1, ca 1, f_l1_11)]) [1] rfl rfl (I1 := [([(2, 0), (2, 1)], jOw (dC, dI) G0 2 r2 s.heap)]) [0] rfl rfl).more hb_585)
                              clear hh_29 ht_58 hvm_58 hz_58 hk_58 hS_58 hb_581 hb_582 hb_583 hb_584 hb_585
                              refine lv_goto (tgt := 286) hx hb dX7_formula_276 (by decide) ?_
                              obtain ⟨z_60, ez_60⟩ : ∃ y : Int32, y = v3_5 + 1 := ⟨_, rfl⟩
                              refine lv_iinc (v := z_60) (lv' := [(3, .int z_60), (8, .int w0_29), (0, .ref r0), (1, .ref r1), (2, .ref r2), (4, .int z_24), (5, .int z_26), (6, .int z_27), (7, .int w0_28)]) hx hb dX7_formula_286 hl (k := 4) rfl (by rw [ez_60]; rfl) (by decide) rfl (fun ls hl => ?_)
                              have hz_60 : z_60.toInt = v3_5.toInt + 1 := by rw [ez_60]; exact jb_iadd2 (rfl) (by decide) (by omega)
                              refine lv_goto (tgt := 15) hx hb dX7_formula_289 (by decide) ?_
                              refine W.tight (c2 := zcx_5) (n2 := zsx_5) hh_58.2.2.2.2.2.1 hh_58.2.2.2.2.2.2.1 ?_
                              exact L15 Gx_5 zcx_5 zsx_5 z_60 wc_5 wr_5 m_wr_5 _ _ (hh_58.sub (L1 := [(r2, 2, 1, .int wc_5), (r2, 2, 0, .ref wr_5)]) [1, 2] rfl (M1 := []) [] rfl (I1 := [([(2, 0), (2, 1)], jOw (dC, dI) G0 2 r2 s.heap)]) [0] rfl) (hN_5) (hle_5) hg_wr_5 (⟨(by first | omega | rfl | assumption | fail), (by first | omega | rfl | assumption | fail), (by first | omega | rfl | assumption | fail), (by first | omega | rfl | assumption | fail), (by first | assumption | fail | omega), (by first | omega | rfl | assumption | fail), (by first | omega | rfl | assumption | fail), (by first | omega | rfl | assumption | fail), (by first | omega | rfl | assumption | fail)⟩) (by omega) _ (lv_sub hl [2, 3, 4, 0] rfl)
                          · skip
                            have c_53' : w0_28.toInt ≤ 4 := jb_gt_n (rfl) ((by decide)) c_53
                            refine lv_aload_n hx hb dX7_formula_250 rfl (lv_at hl 1 rfl) ?_
                            refine lv_aload_n hx hb dX7_formula_251 rfl (lv_at hl 2 rfl) ?_
                            refine lv_iload hx hb dX7_formula_252 (lv_at hl 7 rfl) ?_
                            refine lv_iload hx hb dX7_formula_254 (lv_at hl 6 rfl) ?_
                            refine lv_iload hx hb dX7_formula_256 (lv_at hl 7 rfl) ?_
                            refine lv_isub hx hb dX7_formula_258 ?_
                            refine lv_topi (fun z_61 ez_61 => ?_)
                            have hz_61 : z_61.toInt = z_26.toInt - z_27.toInt := by rw [ez_61]; exact jb_isub2 (rfl) (rfl) (by omega)
                            have hsz_62 := hh_29.2.2.2.2.2.1
                            have htt_62 := hh_29.2.2.2.2.2.2.1
                            refine W.room (fun hrc_62 hrs_62 => ?_)
                            refine va_callv (A0 := jA base) (H0 := s.heap) (va_runV (As := [.ref r1, .int z_27, .int z_61]) (rest := []) ⟨hx, hb, hml, hown, hts⟩ (uX7_pushJoinedB l dC dI ca base B hB hAp hB9 hB280 hB286 Gx_5 H_29 r0 r1 z_27 z_61 n1) (cwV 3 hts (jgV (jWr_32 _ (List.mem_of_getElem? (i := 12) rfl)) (jWr_32 _ (List.mem_of_getElem? (i := 13) rfl)) (jWr_32 _ (List.mem_of_getElem? (i := 14) rfl)) (jWr_2 _ (List.mem_of_getElem? (i := 8) rfl)) (jWr_32 _ (List.mem_of_getElem? (i := 15) rfl))) rfl rfl rfl (by decide +kernel) ⟨by rw [← hR]; exact Nat.le_of_ble_eq_true rfl, by rw [← hR]; exact Nat.le_of_ble_eq_true rfl⟩) ⟨fun a U g mk q => by obtain ⟨q0, q1, q2, qK, q10, q11, q12, q13⟩ := q; exact ⟨q0, q1, q2, jG.calling g mk a qK, q10, q11, q12, q13⟩, hh_29.recv (C := RX7) (T := TX7) (N := 5) hB9 rfl (by decide) hg_6 hK, fun U hU hW => ⟨rfl, hU, hh_29.2.1, hG.step hW hU hh_29.1, hg_7, hg_6, jP.nil, ⟨(by first | omega | rfl | assumption | fail), (by first | omega | rfl | assumption | fail), (by first | omega | rfl | assumption | fail), (by first | omega | rfl | assumption | fail), (by first | omega | rfl | assumption | fail)⟩⟩⟩ rfl rfl hl.1 rfl (lv_room (Nat.le_of_ble_eq_true rfl)) dX7_formula_259 ⟨by rw [hRc]; show _ + 0 ≤ _; omega, by rw [hRs]; show _ + 0 ≤ _; omega⟩) hh_29.1 (fun q _ h => h) (fun q h => h) (fun u_62 t_62 H_62 locs_62 ht_62 hvm_62 hr_63 hb_62 hz_62 hk_62 hS_62 => ?_)
                            rw [ht_62] at hb_62
                            obtain ⟨hb_621, hb_622, hb_623, hb_624, hb_625⟩ := hb_62
                            have hh_62 : jSt (dC, dI) B base G0 Gx_5 EX7_formula s.heap zcx_5 zsx_5 [(r0, 9, 1, .ref stack_21), (r2, 2, 1, .int wc_5), (r2, 2, 0, .ref wr_5)] [(r1, 280, n1, ca 1, f_l1_11)] [([(2, 0), (2, 1)], jOw (dC, dI) G0 2 r2 s.heap)] H_62 locs_62 := ((hh_29.call hb_621 hb_622 hb_623 hb_624 hS_62 rfl (L1 := [(r0, 9, 1, .ref stack_21), (r2, 2, 1, .int wc_5), (r2, 2, 0, .ref wr_5)]) [0, 2, 3] rfl rfl (M1 := [(r1, 280, n1, ca 1, f_l1_11)]) [1] rfl rfl (I1 := [([(2, 0), (2, 1)], jOw (dC, dI) G0 2 r2 s.heap)]) [0] rfl rfl).more hb_625)
                            clear hh_29 ht_62 hvm_62 hz_62 hk_62 hS_62 hb_621 hb_622 hb_623 hb_624 hb_625
                            refine lv_goto (tgt := 286) hx hb dX7_formula_262 (by decide) ?_
                            obtain ⟨z_64, ez_64⟩ : ∃ y : Int32, y = v3_5 + 1 := ⟨_, rfl⟩
                            refine lv_iinc (v := z_64) (lv' := [(3, .int z_64), (8, .int w0_29), (0, .ref r0), (1, .ref r1), (2, .ref r2), (4, .int z_24), (5, .int z_26), (6, .int z_27), (7, .int w0_28)]) hx hb dX7_formula_286 hl (k := 4) rfl (by rw [ez_64]; rfl) (by decide) rfl (fun ls hl => ?_)
                            have hz_64 : z_64.toInt = v3_5.toInt + 1 := by rw [ez_64]; exact jb_iadd2 (rfl) (by decide) (by omega)
                            refine lv_goto (tgt := 15) hx hb dX7_formula_289 (by decide) ?_
                            refine W.tight (c2 := zcx_5) (n2 := zsx_5) hh_62.2.2.2.2.2.1 hh_62.2.2.2.2.2.2.1 ?_
                            exact L15 Gx_5 zcx_5 zsx_5 z_64 wc_5 wr_5 m_wr_5 _ _ (hh_62.sub (L1 := [(r2, 2, 1, .int wc_5), (r2, 2, 0, .ref wr_5)]) [1, 2] rfl (M1 := []) [] rfl (I1 := [([(2, 0), (2, 1)], jOw (dC, dI) G0 2 r2 s.heap)]) [0] rfl) (hN_5) (hle_5) hg_wr_5 (⟨(by first | omega | rfl | assumption | fail), (by first | omega | rfl | assumption | fail), (by first | omega | rfl | assumption | fail), (by first | omega | rfl | assumption | fail), (by first | assumption | fail | omega), (by first | omega | rfl | assumption | fail), (by first | omega | rfl | assumption | fail), (by first | omega | rfl | assumption | fail), (by first | omega | rfl | assumption | fail)⟩) (by omega) _ (lv_sub hl [2, 3, 4, 0] rfl)
                      · skip
                        have c_44' : w0_29.toInt ≠ 0 := jb_eq_n (rfl) ((by decide)) c_44
                        exact (by omega : False).elim
                    · skip
                      have c_43' : w0_29.toInt ≠ 0 := jb_eq_n (rfl) ((by decide)) c_43
                      refine lv_iload hx hb dX7_formula_177 (lv_at hl 6 rfl) ?_
                      refine lv_sipush (v := 256) hx hb dX7_formula_179 (by decide) ?_
                      refine lv_iand hx hb dX7_formula_182 ?_
                      refine lv_topi (fun z_65 ez_65 => ?_)
                      refine lv_if_ne (tgt := 218) hx hb dX7_formula_183 (by decide) (fun c_66 => ?_) (fun c_66 => ?_)
                      · skip
                        have c_66' : z_65.toInt ≠ 0 := jb_ne (rfl) ((by decide)) c_66
                        refine lv_iload hx hb dX7_formula_218 (lv_at hl 0 rfl) ?_
                        refine lv_if_eq (tgt := 238) hx hb dX7_formula_220 (by decide) (fun c_67 => ?_) (fun c_67 => ?_)
                        · skip
                          have c_67' : w0_29.toInt = 0 := jb_eq (rfl) ((by decide)) c_67
                          exact (by omega : False).elim
                        · skip
                          have c_67' : w0_29.toInt ≠ 0 := jb_eq_n (rfl) ((by decide)) c_67
                          refine lv_aload_n hx hb dX7_formula_223 rfl (lv_at hl 1 rfl) ?_
                          refine lv_aload_n hx hb dX7_formula_224 rfl (lv_at hl 2 rfl) ?_
                          refine lv_iload hx hb dX7_formula_225 (lv_at hl 7 rfl) ?_
                          refine lv_iload hx hb dX7_formula_227 (lv_at hl 6 rfl) ?_
                          refine lv_bipush (v := 10) hx hb dX7_formula_229 (by decide) ?_
                          refine lv_ishr hx hb dX7_formula_231 ?_
                          refine lv_topi (fun z_68 ez_68 => ?_)
                          have hz_68 : z_68.toInt = z_26.toInt / 2 ^ 10 := by rw [ez_68]; exact jb_ishr 10 (rfl) (by decide)
                          have hsz_69 := hh_29.2.2.2.2.2.1
                          have htt_69 := hh_29.2.2.2.2.2.2.1
                          refine W.room (fun hrc_69 hrs_69 => ?_)
                          refine va_callv (A0 := jA base) (H0 := s.heap) (va_runV (As := [.ref r1, .int z_27, .int z_68]) (rest := []) ⟨hx, hb, hml, hown, hts⟩ (uX7_pushQuantifiedB l dC dI ca base B hB hAp hB8 hB9 hB102 hB132 hB280 hB286 hB287 hB288 Gx_5 H_29 r0 r1 z_27 z_68 n1 f_l1_11) (cwV 3 hts (jgV (jWr_31 _ (List.mem_of_getElem? (i := 23) rfl)) (jWr_32 _ (List.mem_of_getElem? (i := 0) rfl)) (jWr_32 _ (List.mem_of_getElem? (i := 1) rfl)) (jWr_2 _ (List.mem_of_getElem? (i := 8) rfl)) (jWr_32 _ (List.mem_of_getElem? (i := 2) rfl))) rfl rfl rfl (by decide +kernel) ⟨by rw [← hR]; exact Nat.le_of_ble_eq_true rfl, by rw [← hR]; exact Nat.le_of_ble_eq_true rfl⟩) ⟨fun a U g mk q => by obtain ⟨q0, q1, q2, qK, q10, q11, q12, q13, q14⟩ := q; exact ⟨q0, q1, q2, jG.calling g mk a qK, q10, q11, q12, q13, q14⟩, hh_29.recv (C := RX7) (T := TX7) (N := 5) hB9 rfl (by decide) hg_6 hK, fun U hU hW => ⟨rfl, hU, hh_29.2.1, hG.step hW hU hh_29.1, hg_7, hg_6, jP.nil, (hh_29.2.2.2.2.2.2.2.1.sub (L1 := [(r1, 280, n1, ca 1, f_l1_11)]) [1] rfl), ⟨(by first | omega | rfl | assumption | fail), (by first | omega | rfl | assumption | fail), (by first | omega | rfl | assumption | fail), (by first | omega | rfl | assumption | fail), (by first | omega | rfl | assumption | fail)⟩⟩⟩ rfl rfl hl.1 rfl (lv_room (Nat.le_of_ble_eq_true rfl)) dX7_formula_232 ⟨by rw [hRc]; show _ + 0 ≤ _; omega, by rw [hRs]; show _ + 0 ≤ _; omega⟩) hh_29.1 (fun q _ h => h) (fun q h => h) (fun u_69 t_69 H_69 locs_69 ht_69 hvm_69 hr_70 hb_69 hz_69 hk_69 hS_69 => ?_)
                          rw [ht_69] at hb_69
                          obtain ⟨hb_691, hb_692, hb_693, hb_694, hb_695⟩ := hb_69
                          have hh_69 : jSt (dC, dI) B base G0 Gx_5 EX7_formula s.heap zcx_5 zsx_5 [(r0, 9, 1, .ref stack_21), (r2, 2, 1, .int wc_5), (r2, 2, 0, .ref wr_5)] [(r1, 280, n1, ca 1, f_l1_11)] [([(2, 0), (2, 1)], jOw (dC, dI) G0 2 r2 s.heap)] H_69 locs_69 := ((hh_29.call hb_691 hb_692 hb_693 hb_694 hS_69 rfl (L1 := [(r0, 9, 1, .ref stack_21), (r2, 2, 1, .int wc_5), (r2, 2, 0, .ref wr_5)]) [0, 2, 3] rfl rfl (M1 := [(r1, 280, n1, ca 1, f_l1_11)]) [1] rfl rfl (I1 := [([(2, 0), (2, 1)], jOw (dC, dI) G0 2 r2 s.heap)]) [0] rfl rfl).more hb_695)
                          clear hh_29 ht_69 hvm_69 hz_69 hk_69 hS_69 hb_691 hb_692 hb_693 hb_694 hb_695
                          refine lv_goto (tgt := 286) hx hb dX7_formula_235 (by decide) ?_
                          obtain ⟨z_71, ez_71⟩ : ∃ y : Int32, y = v3_5 + 1 := ⟨_, rfl⟩
                          refine lv_iinc (v := z_71) (lv' := [(3, .int z_71), (8, .int w0_29), (0, .ref r0), (1, .ref r1), (2, .ref r2), (4, .int z_24), (5, .int z_26), (6, .int z_27), (7, .int w0_28)]) hx hb dX7_formula_286 hl (k := 4) rfl (by rw [ez_71]; rfl) (by decide) rfl (fun ls hl => ?_)
                          have hz_71 : z_71.toInt = v3_5.toInt + 1 := by rw [ez_71]; exact jb_iadd2 (rfl) (by decide) (by omega)
                          refine lv_goto (tgt := 15) hx hb dX7_formula_289 (by decide) ?_
                          refine W.tight (c2 := zcx_5) (n2 := zsx_5) hh_69.2.2.2.2.2.1 hh_69.2.2.2.2.2.2.1 ?_
                          exact L15 Gx_5 zcx_5 zsx_5 z_71 wc_5 wr_5 m_wr_5 _ _ (hh_69.sub (L1 := [(r2, 2, 1, .int wc_5), (r2, 2, 0, .ref wr_5)]) [1, 2] rfl (M1 := []) [] rfl (I1 := [([(2, 0), (2, 1)], jOw (dC, dI) G0 2 r2 s.heap)]) [0] rfl) (hN_5) (hle_5) hg_wr_5 (⟨(by first | omega | rfl | assumption | fail), (by first | omega | rfl | assumption | fail), (by first | omega | rfl | assumption | fail), (by first | omega | rfl | assumption | fail), (by first | assumption | fail | omega), (by first | omega | rfl | assumption | fail), (by first | omega | rfl | assumption | fail), (by first | omega | rfl | assumption | fail), (by first | omega | rfl | assumption | fail)⟩) (by omega) _ (lv_sub hl [2, 3, 4, 0] rfl)
                      · skip
                        have c_66' : z_65.toInt = 0 := jb_ne_n (rfl) ((by decide)) c_66
                        refine lv_aload_n hx hb dX7_formula_186 rfl (lv_at hl 1 rfl) ?_
                        refine lv_iconst (v := 0) hx hb dX7_formula_187 (by decide) ?_
                        refine lv_bipush (v := 16) hx hb dX7_formula_188 (by decide) ?_
                        have hsz_72 := hh_29.2.2.2.2.2.1
                        have htt_72 := hh_29.2.2.2.2.2.2.1
                        refine W.room (fun hrc_72 hrs_72 => ?_)
                        refine va_callv (A0 := jA base) (H0 := s.heap) (va_runV (As := [.int 0, .int 16]) (rest := []) ⟨hx, hb, hml, hown, hts⟩ (uX7_pushB l dC dI ca base B hB hAp hB9 hB286 Gx_5 H_29 r0 0 16) (cwV 2 hts (jgV (jWr_31 _ (List.mem_of_getElem? (i := 9) rfl)) (jWr_31 _ (List.mem_of_getElem? (i := 10) rfl)) (jWr_31 _ (List.mem_of_getElem? (i := 11) rfl)) (jWr_2 _ (List.mem_of_getElem? (i := 8) rfl)) (jWr_31 _ (List.mem_of_getElem? (i := 12) rfl))) rfl rfl rfl (by decide +kernel) ⟨by rw [← hR]; exact Nat.le_of_ble_eq_true rfl, by rw [← hR]; exact Nat.le_of_ble_eq_true rfl⟩) ⟨fun a U g mk q => by obtain ⟨q0, q1, q2, qK, q10, q11, q12⟩ := q; exact ⟨q0, q1, q2, jG.calling g mk a qK, q10, q11, q12⟩, hh_29.recv (C := RX7) (T := TX7) (N := 5) hB9 rfl (by decide) hg_6 hK, fun U hU hW => ⟨rfl, hU, hh_29.2.1, hG.step hW hU hh_29.1, hg_6, jP.nil, ⟨(by first | omega | rfl | assumption | fail), (by first | omega | rfl | assumption | fail), (by first | omega | rfl | assumption | fail)⟩⟩⟩ rfl rfl hl.1 rfl (lv_room (Nat.le_of_ble_eq_true rfl)) dX7_formula_190 ⟨by rw [hRc]; show _ + 0 ≤ _; omega, by rw [hRs]; show _ + 0 ≤ _; omega⟩) hh_29.1 (fun q _ h => h) (fun q h => h) (fun u_72 t_72 H_72 locs_72 ht_72 hvm_72 hr_73 hb_72 hz_72 hk_72 hS_72 => ?_)
                        rw [ht_72] at hb_72
                        obtain ⟨hb_721, hb_722, hb_723, hb_724, hb_725⟩ := hb_72
                        have hh_72 : jSt (dC, dI) B base G0 Gx_5 EX7_formula s.heap zcx_5 zsx_5 [(r0, 9, 1, .ref stack_21), (r2, 2, 1, .int wc_5), (r2, 2, 0, .ref wr_5)] [(r1, 280, n1, ca 1, f_l1_11)] [([(2, 0), (2, 1)], jOw (dC, dI) G0 2 r2 s.heap)] H_72 locs_72 := ((hh_29.call hb_721 hb_722 hb_723 hb_724 hS_72 rfl (L1 := [(r0, 9, 1, .ref stack_21), (r2, 2, 1, .int wc_5), (r2, 2, 0, .ref wr_5)]) [0, 2, 3] rfl rfl (M1 := [(r1, 280, n1, ca 1, f_l1_11)]) [1] rfl rfl (I1 := [([(2, 0), (2, 1)], jOw (dC, dI) G0 2 r2 s.heap)]) [0] rfl rfl).more hb_725)
                        clear hh_29 ht_72 hvm_72 hz_72 hk_72 hS_72 hb_721 hb_722 hb_723 hb_724 hb_725
                        refine lv_aload_n hx hb dX7_formula_193 rfl (lv_at hl 1 rfl) ?_
                        refine lv_iconst (v := 2) hx hb dX7_formula_194 (by decide) ?_
                        refine lv_iload hx hb dX7_formula_195 (lv_at hl 6 rfl) ?_
                        refine lv_sipush (v := (-513)) hx hb dX7_formula_197 (by decide) ?_
                        refine lv_iand hx hb dX7_formula_200 ?_
                        refine lv_topi (fun z_74 ez_74 => ?_)
                        have hbz_74 := jb_and0 ez_74 (by omega)
                        refine lv_sipush (v := 256) hx hb dX7_formula_201 (by decide) ?_
                        refine lv_ior hx hb dX7_formula_204 ?_
                        refine lv_topi (fun z_75 ez_75 => ?_)
                        have hbz_75 := jb_or29 ez_75 (by omega) (by omega) (by omega) (by omega)
                        have hsz_76 := hh_72.2.2.2.2.2.1
                        have htt_76 := hh_72.2.2.2.2.2.2.1
                        refine W.room (fun hrc_76 hrs_76 => ?_)
                        refine va_callv (A0 := jA base) (H0 := s.heap) (va_runV (As := [.int 2, .int z_75]) (rest := []) ⟨hx, hb, hml, hown, hts⟩ (uX7_pushB l dC dI ca base B hB hAp hB9 hB286 Gx_5 H_72 r0 2 z_75) (cwV 2 hts (jgV (jWr_31 _ (List.mem_of_getElem? (i := 9) rfl)) (jWr_31 _ (List.mem_of_getElem? (i := 10) rfl)) (jWr_31 _ (List.mem_of_getElem? (i := 11) rfl)) (jWr_2 _ (List.mem_of_getElem? (i := 8) rfl)) (jWr_31 _ (List.mem_of_getElem? (i := 12) rfl))) rfl rfl rfl (by decide +kernel) ⟨by rw [← hR]; exact Nat.le_of_ble_eq_true rfl, by rw [← hR]; exact Nat.le_of_ble_eq_true rfl⟩) ⟨fun a U g mk q => by obtain ⟨q0, q1, q2, qK, q10, q11, q12⟩ := q; exact ⟨q0, q1, q2, jG.calling g mk a qK, q10, q11, q12⟩, hh_72.recv (C := RX7) (T := TX7) (N := 5) hB9 rfl (by decide) hg_6 hK, fun U hU hW => ⟨rfl, hU, hh_72.2.1, hG.step hW hU hh_72.1, hg_6, jP.nil, ⟨(by first | omega | rfl | assumption | fail), (by first | omega | rfl | assumption | fail), (by first | omega | rfl | assumption | fail)⟩⟩⟩ rfl rfl hl.1 rfl (lv_room (Nat.le_of_ble_eq_true rfl)) dX7_formula_205 ⟨by rw [hRc]; show _ + 0 ≤ _; omega, by rw [hRs]; show _ + 0 ≤ _; omega⟩) hh_72.1 (fun q _ h => h) (fun q h => h) (fun u_76 t_76 H_76 locs_76 ht_76 hvm_76 hr_77 hb_76 hz_76 hk_76 hS_76 => ?_)
                        rw [ht_76] at hb_76
                        obtain ⟨hb_761, hb_762, hb_763, hb_764, hb_765⟩ := hb_76
                        have hh_76 : jSt (dC, dI) B base G0 Gx_5 EX7_formula s.heap zcx_5 zsx_5 [(r0, 9, 1, .ref stack_21), (r2, 2, 1, .int wc_5), (r2, 2, 0, .ref wr_5)] [(r1, 280, n1, ca 1, f_l1_11)] [([(2, 0), (2, 1)], jOw (dC, dI) G0 2 r2 s.heap)] H_76 locs_76 := ((hh_72.call hb_761 hb_762 hb_763 hb_764 hS_76 rfl (L1 := [(r0, 9, 1, .ref stack_21), (r2, 2, 1, .int wc_5), (r2, 2, 0, .ref wr_5)]) [0, 1, 2] rfl rfl (M1 := [(r1, 280, n1, ca 1, f_l1_11)]) [0] rfl rfl (I1 := [([(2, 0), (2, 1)], jOw (dC, dI) G0 2 r2 s.heap)]) [0] rfl rfl).more hb_765)
                        clear hh_72 ht_76 hvm_76 hz_76 hk_76 hS_76 hb_761 hb_762 hb_763 hb_764 hb_765
                        refine lv_aload_n hx hb dX7_formula_208 rfl (lv_at hl 1 rfl) ?_
                        refine lv_iconst (v := 0) hx hb dX7_formula_209 (by decide) ?_
                        refine lv_bipush (v := 17) hx hb dX7_formula_210 (by decide) ?_
                        have hsz_78 := hh_76.2.2.2.2.2.1
                        have htt_78 := hh_76.2.2.2.2.2.2.1
                        refine W.room (fun hrc_78 hrs_78 => ?_)
                        refine va_callv (A0 := jA base) (H0 := s.heap) (va_runV (As := [.int 0, .int 17]) (rest := []) ⟨hx, hb, hml, hown, hts⟩ (uX7_pushB l dC dI ca base B hB hAp hB9 hB286 Gx_5 H_76 r0 0 17) (cwV 2 hts (jgV (jWr_31 _ (List.mem_of_getElem? (i := 9) rfl)) (jWr_31 _ (List.mem_of_getElem? (i := 10) rfl)) (jWr_31 _ (List.mem_of_getElem? (i := 11) rfl)) (jWr_2 _ (List.mem_of_getElem? (i := 8) rfl)) (jWr_31 _ (List.mem_of_getElem? (i := 12) rfl))) rfl rfl rfl (by decide +kernel) ⟨by rw [← hR]; exact Nat.le_of_ble_eq_true rfl, by rw [← hR]; exact Nat.le_of_ble_eq_true rfl⟩) ⟨fun a U g mk q => by obtain ⟨q0, q1, q2, qK, q10, q11, q12⟩ := q; exact ⟨q0, q1, q2, jG.calling g mk a qK, q10, q11, q12⟩, hh_76.recv (C := RX7) (T := TX7) (N := 5) hB9 rfl (by decide) hg_6 hK, fun U hU hW => ⟨rfl, hU, hh_76.2.1, hG.step hW hU hh_76.1, hg_6, jP.nil, ⟨(by first | omega | rfl | assumption | fail), (by first | omega | rfl | assumption | fail), (by first | omega | rfl | assumption | fail)⟩⟩⟩ rfl rfl hl.1 rfl (lv_room (Nat.le_of_ble_eq_true rfl)) dX7_formula_212 ⟨by rw [hRc]; show _ + 0 ≤ _; omega, by rw [hRs]; show _ + 0 ≤ _; omega⟩) hh_76.1 (fun q _ h => h) (fun q h => h) (fun u_78 t_78 H_78 locs_78 ht_78 hvm_78 hr_79 hb_78 hz_78 hk_78 hS_78 => ?_)
                        rw [ht_78] at hb_78
                        obtain ⟨hb_781, hb_782, hb_783, hb_784, hb_785⟩ := hb_78
                        have hh_78 : jSt (dC, dI) B base G0 Gx_5 EX7_formula s.heap zcx_5 zsx_5 [(r0, 9, 1, .ref stack_21), (r2, 2, 1, .int wc_5), (r2, 2, 0, .ref wr_5)] [(r1, 280, n1, ca 1, f_l1_11)] [([(2, 0), (2, 1)], jOw (dC, dI) G0 2 r2 s.heap)] H_78 locs_78 := ((hh_76.call hb_781 hb_782 hb_783 hb_784 hS_78 rfl (L1 := [(r0, 9, 1, .ref stack_21), (r2, 2, 1, .int wc_5), (r2, 2, 0, .ref wr_5)]) [0, 1, 2] rfl rfl (M1 := [(r1, 280, n1, ca 1, f_l1_11)]) [0] rfl rfl (I1 := [([(2, 0), (2, 1)], jOw (dC, dI) G0 2 r2 s.heap)]) [0] rfl rfl).more hb_785)
                        clear hh_76 ht_78 hvm_78 hz_78 hk_78 hS_78 hb_781 hb_782 hb_783 hb_784 hb_785
                        refine lv_goto (tgt := 286) hx hb dX7_formula_215 (by decide) ?_
                        obtain ⟨z_80, ez_80⟩ : ∃ y : Int32, y = v3_5 + 1 := ⟨_, rfl⟩
                        refine lv_iinc (v := z_80) (lv' := [(3, .int z_80), (8, .int w0_29), (0, .ref r0), (1, .ref r1), (2, .ref r2), (4, .int z_24), (5, .int z_26), (6, .int z_27), (7, .int w0_28)]) hx hb dX7_formula_286 hl (k := 4) rfl (by rw [ez_80]; rfl) (by decide) rfl (fun ls hl => ?_)
                        have hz_80 : z_80.toInt = v3_5.toInt + 1 := by rw [ez_80]; exact jb_iadd2 (rfl) (by decide) (by omega)
                        refine lv_goto (tgt := 15) hx hb dX7_formula_289 (by decide) ?_
                        refine W.tight (c2 := zcx_5) (n2 := zsx_5) hh_78.2.2.2.2.2.1 hh_78.2.2.2.2.2.2.1 ?_
                        exact L15 Gx_5 zcx_5 zsx_5 z_80 wc_5 wr_5 m_wr_5 _ _ (hh_78.sub (L1 := [(r2, 2, 1, .int wc_5), (r2, 2, 0, .ref wr_5)]) [1, 2] rfl (M1 := []) [] rfl (I1 := [([(2, 0), (2, 1)], jOw (dC, dI) G0 2 r2 s.heap)]) [0] rfl) (hN_5) (hle_5) hg_wr_5 (⟨(by first | omega | rfl | assumption | fail), (by first | omega | rfl | assumption | fail), (by first | omega | rfl | assumption | fail), (by first | omega | rfl | assumption | fail), (by first | assumption | fail | omega), (by first | omega | rfl | assumption | fail), (by first | omega | rfl | assumption | fail), (by first | omega | rfl | assumption | fail), (by first | omega | rfl | assumption | fail)⟩) (by omega) _ (lv_sub hl [2, 3, 4, 0] rfl)
                · skip
                  have c_31' : z_24.toInt = 1 := jb_ne_n (rfl) ((by decide)) c_31
                  refine lv_aload_n hx hb dX7_formula_142 rfl (lv_at hl 1 rfl) ?_
                  obtain ⟨v_81, hv_81, hh_82⟩ := hh_29.pin (C := RX7) (T := TX7) (N := 5) hB9 rfl (by decide) hg_6 (i := 0) (by decide) rfl
                  clear hh_29
                  obtain ⟨names_83, rfl, hg_names_83⟩ := hv_81
                  refine j7_read hx hb hown hK (C := RX7) (T := TX7) (N := 5) rfl hly_9_0 hlk_21 (hh_82.at 0 rfl) dX7_formula_143 ?_
                  refine lv_iload hx hb dX7_formula_146 (lv_at hl 6 rfl) ?_
                  refine lv_ldc hx hb hown hcs_114 dX7_formula_148 ?_
                  refine lv_iand hx hb dX7_formula_150 ?_
                  refine lv_topi (fun z_84 ez_84 => ?_)
                  have hz_84 : 0 ≤ z_84.toInt ∧ z_84.toInt ≤ 131071 := by rw [ez_84]; exact jb_and z_26 (m := 131071) (k := 17) (by decide) (by decide)
                  refine lv_iload hx hb dX7_formula_151 (lv_at hl 6 rfl) ?_
                  refine lv_bipush (v := 17) hx hb dX7_formula_153 (by decide) ?_
                  refine lv_ishr hx hb dX7_formula_155 ?_
                  refine lv_topi (fun z_85 ez_85 => ?_)
                  have hz_85 : z_85.toInt = z_26.toInt / 2 ^ 17 := by rw [ez_85]; exact jb_ishr 17 (rfl) (by decide)
                  refine lv_aload_n hx hb dX7_formula_156 rfl (lv_at hl 3 rfl) ?_
                  have hsz_86 := hh_82.2.2.2.2.2.1
                  have htt_86 := hh_82.2.2.2.2.2.2.1
                  refine W.room (fun hrc_86 hrs_86 => ?_)
                  refine va_callv (A0 := jA base) (H0 := s.heap) (va_runV (As := [.int z_84, .int z_85, .ref r2]) (rest := []) ⟨hx, hb, hml, hown, hts⟩ (uX6_write l dC dI ca base B hB hAp hB2 hB8 hB102 hB132 hB196 Gx_5 H_29 names_83 z_84 z_85 r2 wc_5 wr_5 m_wr_5 LC LS) (cwV 3 hts (jgV (jWr_31 _ (List.mem_of_getElem? (i := 17) rfl)) (jWr_31 _ (List.mem_of_getElem? (i := 18) rfl)) (jWr_31 _ (List.mem_of_getElem? (i := 19) rfl)) (jWr_4 _ (List.mem_of_getElem? (i := 10) rfl)) (jWr_31 _ (List.mem_of_getElem? (i := 20) rfl))) rfl rfl rfl (by decide +kernel) ⟨by rw [← hR]; exact Nat.le_of_ble_eq_true rfl, by rw [← hR]; exact Nat.le_of_ble_eq_true rfl⟩) ⟨fun a U g mk q => by obtain ⟨q0, q1, q2, qK, q10, q11, q12, q13, q14⟩ := q; exact ⟨q0, q1, q2, jG.calling g mk a qK, q10, q11, q12, q13, q14⟩, hh_82.recv (C := RX6) (T := TX6) (N := 4) hB8 rfl (by decide) hg_names_83 hK, fun U hU hW => ⟨rfl, hU, hh_82.2.1, hG.step hW hU hh_82.1, hg_8, hg_names_83, hg_wr_5, (hh_82.2.2.1.sub (L1 := [(r2, 2, 1, .int wc_5), (r2, 2, 0, .ref wr_5)]) [3, 4] rfl), (by omega), (by omega), ⟨(by first | omega | rfl | assumption | fail), (by first | omega | rfl | assumption | fail), (by first | omega | rfl | assumption | fail), (by first | omega | rfl | assumption | fail), (by first | assumption | fail | omega)⟩⟩⟩ rfl rfl hl.1 rfl (lv_room (Nat.le_of_ble_eq_true rfl)) dX7_formula_157 ⟨by rw [hRc]; omega, by rw [hRs]; omega⟩) hh_82.1 (fun q _ h => h) (fun q h => h) (fun u_86 t_86 H_86 locs_86 ht_86 hvm_86 hr_87 hb_86 hz_86 hk_86 hS_86 => ?_)
                  obtain ⟨qc_86, qa_86, m_qa_86, G_86⟩ := u_86
                  rw [ht_86] at hb_86
                  simp only at hb_86
                  obtain ⟨⟨hb_861, hb_862, hb_863, hb_864, hb_865, hb_866⟩, hgq_86_0, hN_86, hbO_86⟩ := hb_86
                  have hh_86 : jSt (dC, dI) B base G0 G_86 EX7_formula s.heap (zcx_5 + ((m_qa_86 - m_wr_5) / 16)) (zsx_5 + (2 * (m_qa_86 - m_wr_5))) [(r2, 2, 1, .int qc_86), (r2, 2, 0, .ref qa_86), (r0, 9, 0, .ref names_83), (r0, 9, 1, .ref stack_21), (r0, 9, 2, .int z_17)] [(stack_21, 286, 800, ca 1, f_stack_22), (r1, 280, n1, ca 1, f_l1_11)] [] H_86 locs_86 := (hh_82.callG hb_861 hb_862 hb_863 hb_864 hb_865 hS_86 rfl (L1 := [(r0, 9, 0, .ref names_83), (r0, 9, 1, .ref stack_21), (r0, 9, 2, .int z_17)]) [0, 1, 2] rfl rfl (M1 := [(stack_21, 286, 800, ca 1, f_stack_22), (r1, 280, n1, ca 1, f_l1_11)]) [0, 1] rfl rfl (I1 := []) [] rfl rfl).more hb_866
                  have hNn_86 : (jNk [0, 1, 2, 3, 4, 5, 6, 7, 8, 9, 10, 11, 12, 13, 14, 15, 16, 17, 175]) G0 G_86 := (hN_5).tr hN_86
                  have hg_88 := hb_862 _ _ hg_6
                  have hg_89 := hb_862 _ _ hg_7
                  have hg_90 := hb_862 _ _ hg_8
                  have hg_91 := hb_862 _ _ hg_names_83
                  have hg_92 := hb_862 _ _ hg_stack_21
                  have hd_93 := jOw.tr (hh_82.iv 0 rfl) hh_82.2.2.2.2.1 hbO_86
                  have hh_94 := hh_86.addI (jOw.ie (dC := dC) (dI := dI) (G0 := G0) (k := 2) (r := r2) (H0 := s.heap) (F := [(2, 0), (2, 1)]) (C := RX0) (T := TX0) (N := 2) rfl (by decide) hh_86.2.2.2.2.1 (hd_93))
                  clear hh_86
                  try simp only at hr_87
                  obtain ⟨hr_87_0, hr_87_1, hr_87_2, hr_87_3, hr_87_4⟩ := hr_87
                  have hh_95 := hh_94.wk (zc1 := (m_qa_86 - n_pa) / 16) (zs1 := 2 * (m_qa_86 - n_pa)) (by omega) (by omega)
                  clear hh_94
                  try clear hsz_86 htt_86 hrc_86 hrs_86
                  try clear hb_864 hb_865
                  refine lv_goto (tgt := 286) hx hb dX7_formula_160 (by decide) ?_
                  obtain ⟨z_96, ez_96⟩ : ∃ y : Int32, y = v3_5 + 1 := ⟨_, rfl⟩
                  refine lv_iinc (v := z_96) (lv' := [(3, .int z_96), (8, .int w0_29), (0, .ref r0), (1, .ref r1), (2, .ref r2), (4, .int z_24), (5, .int z_26), (6, .int z_27), (7, .int w0_28)]) hx hb dX7_formula_286 hl (k := 4) rfl (by rw [ez_96]; rfl) (by decide) rfl (fun ls hl => ?_)
                  have hz_96 : z_96.toInt = v3_5.toInt + 1 := by rw [ez_96]; exact jb_iadd2 (rfl) (by decide) (by omega)
                  refine lv_goto (tgt := 15) hx hb dX7_formula_289 (by decide) ?_
                  refine W.tight (c2 := ((m_qa_86 - n_pa) / 16)) (n2 := (2 * (m_qa_86 - n_pa))) hh_95.2.2.2.2.2.1 hh_95.2.2.2.2.2.2.1 ?_
                  exact L15 G_86 ((m_qa_86 - n_pa) / 16) (2 * (m_qa_86 - n_pa)) z_96 qc_86 qa_86 m_qa_86 _ _ (hh_95.sub (L1 := [(r2, 2, 1, .int qc_86), (r2, 2, 0, .ref qa_86)]) [0, 1] rfl (M1 := []) [] rfl (I1 := [([(2, 0), (2, 1)], jOw (dC, dI) G0 2 r2 s.heap)]) [0] rfl) (hNn_86) ((hle_5).tr hb_862) hgq_86_0 (⟨(by first | omega | rfl | assumption | fail), (by first | omega | rfl | assumption | fail), (by first | omega | rfl | assumption | fail), (by first | omega | rfl | assumption | fail), (by first | assumption | fail | omega), (by first | omega | rfl | assumption | fail), (by first | omega | rfl | assumption | fail), (by first | omega | rfl | assumption | fail), (by first | omega | rfl | assumption | fail)⟩) (by omega) _ (lv_sub hl [2, 3, 4, 0] rfl)
              · skip
                have c_30' : z_24.toInt = 0 := jb_ne_n (rfl) ((by decide)) c_30
                refine lv_aload_n hx hb dX7_formula_124 rfl (lv_at hl 3 rfl) ?_
                refine lv_iload hx hb dX7_formula_125 (lv_at hl 6 rfl) ?_
                have hsz_97 := hh_29.2.2.2.2.2.1
                have htt_97 := hh_29.2.2.2.2.2.2.1
                refine W.room (fun hrc_97 hrs_97 => ?_)
                refine j_callx (A0 := jA base) (H0 := s.heap) (va_runS (As := [.int z_26]) (rest := [.ref r2]) ⟨hx, hb, hml, hown, hts⟩ (uX7_signText l dC dI ca base B hB hAp Gx_5 H_29 z_26) (va_cwS 1 hts (jgS (jWr_31 _ (List.mem_of_getElem? (i := 13) rfl)) (jWr_31 _ (List.mem_of_getElem? (i := 14) rfl)) (jWr_2 _ (List.mem_of_getElem? (i := 8) rfl)) (jWr_31 _ (List.mem_of_getElem? (i := 15) rfl))) rfl rfl rfl (by decide +kernel) ⟨by rw [← hR]; exact Nat.le_of_ble_eq_true rfl, by rw [← hR]; exact Nat.le_of_ble_eq_true rfl⟩) ⟨fun a U g mk q => by obtain ⟨q0, q1, q2, qK, q10, q11⟩ := q; exact ⟨q0, q1, q2, jG.calling g mk a qK, q10, q11⟩, fun U hU hW => ⟨rfl, hU, hh_29.2.1, hG.step hW hU hh_29.1, jP.nil, trivial⟩⟩ rfl rfl hl.1 rfl (lv_room (Nat.le_of_ble_eq_true rfl)) dX7_formula_127 ⟨by rw [hRc]; show _ + 0 ≤ _; omega, by rw [hRs]; show _ + 0 ≤ _; omega⟩) hh_29.1 (fun q _ h => h) (fun q h => h) (fun r_98 u_97 t_97 H_97 locs_97 ht_97 hvm_97 hr_98 hb_97 hz_97 hk_97 hS_97 => ?_)
                rw [ht_97] at hb_97
                obtain ⟨hb_97, hbV_97⟩ := hb_97
                obtain ⟨hb_971, hb_972, hb_973, hb_974, hb_975⟩ := hb_97
                have hh_97 : jSt (dC, dI) B base G0 Gx_5 EX7_formula s.heap zcx_5 zsx_5 [(r0, 9, 1, .ref stack_21), (r0, 9, 2, .int z_17), (r2, 2, 1, .int wc_5), (r2, 2, 0, .ref wr_5)] [(stack_21, 286, 800, ca 1, f_stack_22), (r1, 280, n1, ca 1, f_l1_11)] [([(2, 0), (2, 1)], jOw (dC, dI) G0 2 r2 s.heap)] H_97 locs_97 := ((hh_29.call hb_971 hb_972 hb_973 hb_974 hS_97 rfl (L1 := [(r0, 9, 1, .ref stack_21), (r0, 9, 2, .int z_17), (r2, 2, 1, .int wc_5), (r2, 2, 0, .ref wr_5)]) [0, 1, 2, 3] rfl rfl (M1 := [(stack_21, 286, 800, ca 1, f_stack_22), (r1, 280, n1, ca 1, f_l1_11)]) [0, 1] rfl rfl (I1 := [([(2, 0), (2, 1)], jOw (dC, dI) G0 2 r2 s.heap)]) [0] rfl rfl).more hb_975)
                obtain ⟨rfl, hn_97⟩ := hr_98
                have hstr_97 : jStr base u_97.1 u_97.2 s s.heap := hbV_97.back hvm_97 hbs hh_97.1.2.1
                clear hh_29 ht_97 hvm_97 hz_97 hk_97 hS_97 hb_971 hb_972 hb_973 hb_974 hb_975
                have hsz_99 := hh_97.2.2.2.2.2.1
                have htt_99 := hh_97.2.2.2.2.2.2.1
                refine W.room (fun hrc_99 hrs_99 => ?_)
                refine va_callv (A0 := jA base) (H0 := s.heap) (va_runV (As := [.ref u_97.1]) (rest := []) ⟨hx, hb, hml, hown, hts⟩ (uX0_text l dC dI ca base B hB hAp hB2 hB196 Gx_5 H_97 r2 u_97.1 u_97.2 wc_5 wr_5 m_wr_5 LC LS) (cwV 1 hts (jgV (jWr_31 _ (List.mem_of_getElem? (i := 16) rfl)) (jWr_25 _ (List.mem_of_getElem? (i := 22) rfl)) (jWr_25 _ (List.mem_of_getElem? (i := 23) rfl)) (jWr_1 _ (List.mem_of_getElem? (i := 14) rfl)) (jWr_26 _ (List.mem_of_getElem? (i := 0) rfl))) rfl rfl rfl (by decide +kernel) ⟨by rw [← hR]; exact Nat.le_of_ble_eq_true rfl, by rw [← hR]; exact Nat.le_of_ble_eq_true rfl⟩) ⟨fun a U g mk q => by obtain ⟨q0, q1, q2, qK, q10, q11, q12, q13, q14⟩ := q; exact ⟨q0, q1, q2, jG.calling g mk a qK, (q10.moved (Vm.Alike.refl U.vm)), q11, q12, q13, q14⟩, hh_97.recv (C := RX0) (T := TX0) (N := 2) hB2 rfl (by decide) hg_8 hK, fun U hU hW => ⟨rfl, hU, hh_97.2.1, hG.step hW hU hh_97.1, (hstr_97.moved hW.alike).kept hh_97.1.2.1, hg_8, hg_wr_5, (hh_97.2.2.1.sub (L1 := [(r2, 2, 1, .int wc_5), (r2, 2, 0, .ref wr_5)]) [2, 3] rfl), (by omega), (by omega), ⟨(by first | omega | rfl | assumption | fail), (by first | omega | rfl | assumption | fail), (by first | omega | rfl | assumption | fail), (by first | omega | rfl | assumption | fail), (by first | assumption | fail | omega), (by first | omega | rfl | assumption | fail)⟩⟩⟩ rfl rfl hl.1 rfl (lv_room (Nat.le_of_ble_eq_true rfl)) dX7_formula_130 ⟨by rw [hRc]; omega, by rw [hRs]; omega⟩) hh_97.1 (fun q _ h => h) (fun q h => h) (fun u_99 t_99 H_99 locs_99 ht_99 hvm_99 hr_100 hb_99 hz_99 hk_99 hS_99 => ?_)
                obtain ⟨qc_99, qa_99, m_qa_99, G_99⟩ := u_99
                rw [ht_99] at hb_99
                simp only at hb_99
                obtain ⟨⟨hb_991, hb_992, hb_993, hb_994, hb_995, hb_996⟩, hgq_99_0, hN_99, hbO_99⟩ := hb_99
                have hh_99 : jSt (dC, dI) B base G0 G_99 EX7_formula s.heap (zcx_5 + ((m_qa_99 - m_wr_5) / 16)) (zsx_5 + (2 * (m_qa_99 - m_wr_5))) [(r2, 2, 1, .int qc_99), (r2, 2, 0, .ref qa_99), (r0, 9, 1, .ref stack_21), (r0, 9, 2, .int z_17)] [(stack_21, 286, 800, ca 1, f_stack_22), (r1, 280, n1, ca 1, f_l1_11)] [] H_99 locs_99 := (hh_97.callG hb_991 hb_992 hb_993 hb_994 hb_995 hS_99 rfl (L1 := [(r0, 9, 1, .ref stack_21), (r0, 9, 2, .int z_17)]) [0, 1] rfl rfl (M1 := [(stack_21, 286, 800, ca 1, f_stack_22), (r1, 280, n1, ca 1, f_l1_11)]) [0, 1] rfl rfl (I1 := []) [] rfl rfl).more hb_996
                have hNn_99 : (jNk [0, 1, 2, 3, 4, 5, 6, 7, 8, 9, 10, 11, 12, 13, 14, 15, 16, 17, 175]) G0 G_99 := (hN_5).tr hN_99
                have hg_101 := hb_992 _ _ hg_6
                have hg_102 := hb_992 _ _ hg_7
                have hg_103 := hb_992 _ _ hg_8
                have hg_104 := hb_992 _ _ hg_stack_21
                have hd_105 := jOw.tr (hh_97.iv 0 rfl) hh_97.2.2.2.2.1 hbO_99
                have hh_106 := hh_99.addI (jOw.ie (dC := dC) (dI := dI) (G0 := G0) (k := 2) (r := r2) (H0 := s.heap) (F := [(2, 0), (2, 1)]) (C := RX0) (T := TX0) (N := 2) rfl (by decide) hh_99.2.2.2.2.1 (hd_105))
                clear hh_99
                try simp only at hr_100
                obtain ⟨hr_100_0, hr_100_1, hr_100_2, hr_100_3, hr_100_4⟩ := hr_100
                have hh_107 := hh_106.wk (zc1 := (m_qa_99 - n_pa) / 16) (zs1 := 2 * (m_qa_99 - n_pa)) (by omega) (by omega)
                clear hh_106
                try clear hsz_99 htt_99 hrc_99 hrs_99
                try clear hb_994 hb_995
                refine lv_goto (tgt := 286) hx hb dX7_formula_133 (by decide) ?_
                obtain ⟨z_108, ez_108⟩ : ∃ y : Int32, y = v3_5 + 1 := ⟨_, rfl⟩
                refine lv_iinc (v := z_108) (lv' := [(3, .int z_108), (8, .int w0_29), (0, .ref r0), (1, .ref r1), (2, .ref r2), (4, .int z_24), (5, .int z_26), (6, .int z_27), (7, .int w0_28)]) hx hb dX7_formula_286 hl (k := 4) rfl (by rw [ez_108]; rfl) (by decide) rfl (fun ls hl => ?_)
                have hz_108 : z_108.toInt = v3_5.toInt + 1 := by rw [ez_108]; exact jb_iadd2 (rfl) (by decide) (by omega)
                refine lv_goto (tgt := 15) hx hb dX7_formula_289 (by decide) ?_
                refine W.tight (c2 := ((m_qa_99 - n_pa) / 16)) (n2 := (2 * (m_qa_99 - n_pa))) hh_107.2.2.2.2.2.1 hh_107.2.2.2.2.2.2.1 ?_
                exact L15 G_99 ((m_qa_99 - n_pa) / 16) (2 * (m_qa_99 - n_pa)) z_108 qc_99 qa_99 m_qa_99 _ _ (hh_107.sub (L1 := [(r2, 2, 1, .int qc_99), (r2, 2, 0, .ref qa_99)]) [0, 1] rfl (M1 := []) [] rfl (I1 := [([(2, 0), (2, 1)], jOw (dC, dI) G0 2 r2 s.heap)]) [0] rfl) (hNn_99) ((hle_5).tr hb_992) hgq_99_0 (⟨(by first | omega | rfl | assumption | fail), (by first | omega | rfl | assumption | fail), (by first | omega | rfl | assumption | fail), (by first | omega | rfl | assumption | fail), (by first | assumption | fail | omega), (by first | omega | rfl | assumption | fail), (by first | omega | rfl | assumption | fail), (by first | omega | rfl | assumption | fail), (by first | omega | rfl | assumption | fail)⟩) (by omega) _ (lv_sub hl [2, 3, 4, 0] rfl)
            refine lv_icmp_eq (tgt := 112) hx hb dX7_formula_102 (by decide) (fun c_109 => ?_) (fun c_109 => ?_)
            · skip
              have c_109' : w0_28.toInt = 5 := jb_eq (rfl) ((by decide)) c_109
              refine lv_iconst (v := 1) hx hb dX7_formula_112 (by decide) ?_
              refine lv_goto (tgt := 117) hx hb dX7_formula_113 (by decide) ?_
              refine W.tight (c2 := zcx_5) (n2 := zsx_5) hh_28.2.2.2.2.2.1 hh_28.2.2.2.2.2.2.1 ?_
              exact C117 1 _ _ hh_28 (Or.inr rfl) (by first | omega | rfl | assumption | fail) _ (lv_sub hl [1, 2, 3, 4, 5, 6, 7, 0] rfl)
            · skip
              have c_109' : w0_28.toInt ≠ 5 := jb_eq_n (rfl) ((by decide)) c_109
              refine lv_iload hx hb dX7_formula_105 (lv_at hl 0 rfl) ?_
              refine lv_bipush (v := 6) hx hb dX7_formula_107 (by decide) ?_
              refine lv_icmp_ne (tgt := 116) hx hb dX7_formula_109 (by decide) (fun c_110 => ?_) (fun c_110 => ?_)
              · skip
                have c_110' : w0_28.toInt ≠ 6 := jb_ne (rfl) ((by decide)) c_110
                refine lv_iconst (v := 0) hx hb dX7_formula_116 (by decide) ?_
                refine W.tight (c2 := zcx_5) (n2 := zsx_5) hh_28.2.2.2.2.2.1 hh_28.2.2.2.2.2.2.1 ?_
                exact C117 0 _ _ hh_28 (Or.inl rfl) (by first | omega | rfl | assumption | fail) _ (lv_sub hl [1, 2, 3, 4, 5, 6, 7, 0] rfl)
              · skip
                have c_110' : w0_28.toInt = 6 := jb_ne_n (rfl) ((by decide)) c_110
                refine lv_iconst (v := 1) hx hb dX7_formula_112 (by decide) ?_
                refine lv_goto (tgt := 117) hx hb dX7_formula_113 (by decide) ?_
                refine W.tight (c2 := zcx_5) (n2 := zsx_5) hh_28.2.2.2.2.2.1 hh_28.2.2.2.2.2.2.1 ?_
                exact C117 1 _ _ hh_28 (Or.inr rfl) (by first | omega | rfl | assumption | fail) _ (lv_sub hl [1, 2, 3, 4, 5, 6, 7, 0] rfl)
          refine lv_icmp_ne (tgt := 96) hx hb dX7_formula_76 (by decide) (fun c_111 => ?_) (fun c_111 => ?_)
          · skip
            have c_111' : z_24.toInt ≠ 2 := jb_ne (rfl) ((by decide)) c_111
            refine lv_iconst (v := 0) hx hb dX7_formula_96 (by decide) ?_
            refine W.tight (c2 := zcx_5) (n2 := zsx_5) hh_22.2.2.2.2.2.1 hh_22.2.2.2.2.2.2.1 ?_
            exact C97 0 _ _ hh_22 (⟨(by first | omega | rfl | assumption | fail), (by first | omega | rfl | assumption | fail), (by first | omega | rfl | assumption | fail)⟩) _ (lv_sub hl [3, 4, 5, 6, 2, 1, 0] rfl)
          · skip
            have c_111' : z_24.toInt = 2 := jb_ne_n (rfl) ((by decide)) c_111
            refine lv_iload hx hb dX7_formula_79 (lv_at hl 0 rfl) ?_
            refine lv_aload_n hx hb dX7_formula_81 rfl (lv_at hl 4 rfl) ?_
            refine j7_len hx hb hK hh_22 hB280 1 rfl (by decide) hg_7 (by omega) dX7_formula_82 (fun z_112 hz_112 => ?_)
            refine lv_icmp_ge (tgt := 96) hx hb dX7_formula_83 (by decide) (fun c_113 => ?_) (fun c_113 => ?_)
            · skip
              have c_113' : z_27.toInt ≥ z_112.toInt := jb_ge (rfl) (rfl) c_113
              refine lv_iconst (v := 0) hx hb dX7_formula_96 (by decide) ?_
              refine W.tight (c2 := zcx_5) (n2 := zsx_5) hh_22.2.2.2.2.2.1 hh_22.2.2.2.2.2.2.1 ?_
              exact C97 0 _ _ hh_22 (⟨(by first | omega | rfl | assumption | fail), (by first | omega | rfl | assumption | fail), (by first | omega | rfl | assumption | fail)⟩) _ (lv_sub hl [3, 4, 5, 6, 2, 1, 0] rfl)
            · skip
              have c_113' : z_27.toInt < z_112.toInt := jb_ge_n (rfl) (rfl) c_113
              refine lv_aload_n hx hb dX7_formula_86 rfl (lv_at hl 4 rfl) ?_
              refine lv_iload hx hb dX7_formula_87 (lv_at hl 0 rfl) ?_
              refine j7_ialdM hx hb hK hh_22 hB280 1 rfl (by decide) hg_7 (x := z_27.toInt) (rfl) (by omega) (j := 1) rfl dX7_formula_89 (fun z_114 ez_114 (hz_114 : -1 ≤ z_114.toInt) => ?_)
              have hqz_114 : z_114.toInt = jSo f_l1_11 (z_27.toInt) := by unfold jSo; rw [ez_114]
              refine lv_bipush (v := 15) hx hb dX7_formula_90 (by decide) ?_
              refine lv_iand hx hb dX7_formula_92 ?_
              refine lv_topi (fun z_115 ez_115 => ?_)
              have hz_115 : 0 ≤ z_115.toInt ∧ z_115.toInt ≤ 15 := by rw [ez_115]; exact jb_and z_114 (m := 15) (k := 4) (by decide) (by decide)
              have hbz_115 : z_115.toInt = z_114.toInt % 16 := by rw [ez_115, jb_and15]
              refine lv_goto (tgt := 97) hx hb dX7_formula_93 (by decide) ?_
              refine W.tight (c2 := zcx_5) (n2 := zsx_5) hh_22.2.2.2.2.2.1 hh_22.2.2.2.2.2.2.1 ?_
              exact C97 z_115 _ _ hh_22 (⟨(by first | omega | rfl | assumption | fail), (by first | omega | rfl | assumption | fail), (by first | omega | rfl | assumption | fail)⟩) _ (lv_sub hl [3, 4, 5, 6, 2, 1, 0] rfl)
  refine W.tight (c2 := 0) (n2 := 0) hh_3.2.2.2.2.2.1 hh_3.2.2.2.2.2.2.1 ?_
  exact L15 (800 - (0 : Int32).toInt : Int).toNat.succ G0 0 0 0 pc pa n_pa _ _ hh_3 (jNk.rf) (jLe.rf) hg_pa (⟨(by first | omega | rfl | assumption | fail), (by first | omega | rfl | assumption | fail), (by first | omega | rfl | assumption | fail), (by first | omega | rfl | assumption | fail), (by first | assumption | fail | omega), (by first | omega | rfl | assumption | fail), (by first | omega | rfl | assumption | fail), (by first | omega | rfl | assumption | fail), (by first | omega | rfl | assumption | fail)⟩) (by omega) _ (lv_sub hl [1, 2, 3, 0] rfl)
end
section
-- arrays of references that get their kind when they are filled; arrays of arrays of ints
section J22
variable {p : Program} {l : Launch} {e : Env} {R : Room} {s : State} {m : MethodId} {args : Array Value} {below : List Frame} {meth : Method} {c : Code} {H : Heap} {locs : List Loc} {cells slots : Nat} {Q : State → Prop}
variable {cc : ByteArray} {pc : Nat} {ls : Array Slot} {rest : List Value} {dC : Nat → ClassId} {dI : Nat → Nat → Nat} {ca : Nat → ClassId} {B : jF} {base : Nat} {G0 G : jT} {E : List (Nat × Nat)} {H0 : Heap} {zc zs : Nat} {L : List jPin} {M : List jCt} {I : List jIv} {a k n index : Nat} {tys : List (ClassId × FieldType)} {own C : String} {cA : ClassId} {f : Nat → Option Nat}
theorem j7_newaR (hexec : p.tables.exec = Jvm.exec) (hb : c.code = cc) (hown : s.vm.findClass own = some m.cls) (hclink : (Cond.classLink own index (FieldType.array .int).toString).before args s = true) (hK5 : jK5 dC dI ca s) (hh : jSt (dC, dI) B base G0 G E s.heap zc zs L M I H locs) (hB : jBok B) {z : Int32} {x : Int} (hi : z.toInt = x) (h0 : 0 ≤ x ∧ x ≤ 200000) (hR : zc + 1 ≤ R.cells) (hR2 : zs + x.toNat ≤ R.slots) (hdg : decode cc pc = .ok (.anewarray index, 3))
    (kk : ∀ (H1 : Heap), (∀ q, q < H.size → H1[q]? = H[q]?) → (∀ t, G H.size ≠ some t) → va_at (dC, dI) vwCl (H.size, .inl (ca 8, x.toNat, .inr (.inr (.inr (.inr (fun _ => none)))))) H1 → jSt (dC, dI) B base G0 G E s.heap (zc + 1) (zs + x.toNat) L M I H1 locs → W p l e R s m args below meth c H1 locs (zc + 1) (zs + x.toNat) Q (F0 m (pc + 3) ls (.ref H.size :: rest))) : W p l e R s m args below meth c H locs cells slots Q (F0 m pc ls (.int z :: rest)) := by
  have hn0 : ¬ z < 0 := jb_n0 hi h0.1
  have hcl : z.toNatClampNeg = x.toNat := jb_cl hi h0.1
  refine W.tight (c2 := zc) (n2 := zs) hh.2.2.2.2.2.1 hh.2.2.2.2.2.2.1 ?_
  refine W.anewA (t := .int) hexec hb hown hclink hK5.2.2.2 rfl hdg rfl hn0 (by rw [hcl]; omega) hR (by rw [hcl]; exact hR2) fun cB kA comp f1 f2 f3 f4 => ?_
  have hc : cB = ca 8 := Option.some.inj (f1.symm.trans (hK5.1.2 0 _ rfl).2)
  subst hc
  generalize hH1 : H.push ({ cls := ca 8, slots := Array.replicate z.toNatClampNeg .null, vm := .none } : Cell) = H1
  have z1 : H1.size = H.size + 1 := by rw [← hH1, Array.size_push]
  have e1 : H1[H.size]? = some (arrV (ca 8) z.toNatClampNeg (fun _ => .null)) := by rw [← hH1, Array.getElem?_push_size, ← arrV_new]
  have o1 : ∀ q : Nat, q < H.size → H1[q]? = H[q]? := fun q hq => by rw [← hH1, Array.getElem?_push, if_neg (Nat.ne_of_lt hq)]
  rw [hcl] at e1 ⊢
  exact kk H1 o1 (fun t => by rw [hh.2.1.fresh]; exact fun h => by cases h) (by show H1[H.size]? = some (vp_cell _ _); rw [e1]; rfl) (hh.newR hB z1 o1 (by rw [jTot_push z1 e1 o1, arrV_size]))
/-- an array of ints into an array of arrays that has no kind yet -/
theorem j7_qastA {Pv : Nat → Int32 → Prop} (hexec : p.tables.exec = Jvm.exec) (hb : c.code = cc) (hK5 : jK5 dC dI ca s) (hh : jSt (dC, dI) B base G0 G E H0 zc zs L M I H locs) (hB : jBok B) (hraw : va_at (dC, dI) vwCl (a, .inl (ca 8, n, .inr (.inr (.inr (.inr f))))) H) (hnr : ∀ t, G a ≠ some t) (hba : base ≤ a) {i : Int32} {x : Int} (hi : i.toInt = x) (h12 : 0 ≤ x ∧ x < n)
    {v kv nv : Nat} (hBv : ∀ n G a H, B kv n G a H ↔ jAr (dC, dI) (ca 1) Pv n a H) (hkv : kv < 1000) (hv : G v = some (kv, nv)) (hdg : decode cc pc = .ok (.aastore, 1))
    (kk : ∀ (H1 : Heap) (locs1 : List Loc), va_at (dC, dI) vwCl (a, .inl (ca 8, n, .inr (.inr (.inr (.inr (va_up f x.toNat (some v))))))) H1 → (∀ q, q ≠ a → H1[q]? = H[q]?) → jSt (dC, dI) B base G0 G E H0 zc zs L M I H1 locs1 → W p l e R s m args below meth c H1 locs1 cells slots Q (F0 m (pc + 1) ls rest)) : W p l e R s m args below meth c H locs cells slots Q (F0 m pc ls (.ref v :: .int i :: .ref a :: rest)) := by
  obtain ⟨h1, h2⟩ := h12
  have g1 : H[a]? = some (vp_cell (ca 8) (n, .inr (.inr (.inr (.inr f))))) := hraw
  obtain ⟨gv, gv1, -⟩ := hh.ar hBv hkv hv
  have q1 : H[v]? = some (vp_cell (ca 1) (nv, .inl gv)) := gv1
  have hlt := jb_cl_lt hi h1 h2
  have hcl := jb_cl hi h1
  obtain ⟨-, ⟨kA, k1, k2⟩, ⟨kI, hkI⟩, -⟩ := hK5
  refine W.aast hexec hb g1 (fun q h => by cases h) (fun h => by cases h) k1 k2 rfl hkI ⟨jb_n0 hi h1, by show _ < (arrV _ _ _).slots.size; rw [arrV_size]; exact hlt⟩ q1 (fun q h => by cases h) hkI (va_asg _ _) rfl rfl hdg fun H1 e1 z oq => ?_
  refine kk H1 _ ?_ oq (hh.rawput hB hnr hba z oq (jTot_set z g1 e1 (jSet_sz _ _ _) oq) (fun q hq => ?_))
  · show H1[a]? = some (vp_cell _ _)
    rw [e1, vp_cell_q, vp_cell_q, arrV_store, hcl]
    congr 2
    funext q
    by_cases hq : q = x.toNat
    · subst hq
      simp [updV, va_up, va_rf]
    · simp [updV, va_up, hq]
  · rcases List.mem_append.mp hq with h | h
    · exact hh.1.2.2 q h
    · cases List.mem_singleton.mp h; exact hba
/-- an element of a typed array of arrays -/
theorem j7_qaldA {P : jT → Option Nat → Prop} (hexec : p.tables.exec = Jvm.exec) (hb : c.code = cc) (hK5 : jK5 dC dI ca s) (hh : jSt (dC, dI) B base G0 G E H0 zc zs L M I H locs) (hBk : ∀ n G a H, B k n G a H ↔ jAq (dC, dI) (ca 8) P n G a H) (hk : k < 1000) (ha : G a = some (k, n)) {i : Int32} {x : Int} (hi : i.toInt = x) (h12 : 0 ≤ x ∧ x < n) (hdg : decode cc pc = .ok (.aaload, 1))
    (kk : ∀ o : Option Nat, P G o → W p l e R s m args below meth c H locs cells slots Q (F0 m (pc + 1) ls (va_rf o :: rest))) : W p l e R s m args below meth c H locs cells slots Q (F0 m pc ls (.int i :: .ref a :: rest)) := by
  obtain ⟨h1, h2⟩ := h12
  obtain ⟨f, g1, g2⟩ := hh.aq hBk hk ha
  have hlt := jb_cl_lt hi h1 h2
  have c1 : H[a]? = some (vp_cell (ca 8) (n, .inr (.inr (.inr (.inr f))))) := g1
  exact W.aald (v := va_rf (f i.toNatClampNeg)) (ty := .array .int) hexec hb c1 ((hK5.1.2 0 _ rfl).1 n (fun j => va_rf (f j))) rfl (fun q => by cases q) (by show ¬ (i < 0 ∨ (arrV _ _ _).slots.size ≤ _); rw [arrV_size]; exact jb_in hi h1 h2) (by show (arrV _ _ _).slots[_]? = _; rw [arrV_read _ _ hlt]) rfl rfl hdg (kk _ (g2 _ hlt))
end J22
end
section
theorem jSz {G : jT} {a k n m : Nat} (h : G a = some (k, n)) (e : n = m) : G a = some (k, m) := e ▸ h
theorem dX1_stateBehind_0 : decode cX1_stateBehind 0 = .ok (.iload_n 1, 1) := by decide +kernel
theorem dX1_stateBehind_1 : decode cX1_stateBehind 1 = .ok (.iconst 1, 1) := by decide +kernel
theorem dX1_stateBehind_2 : decode cX1_stateBehind 2 = .ok (.if_icmp .lt 20, 3) := by decide +kernel
theorem dX1_stateBehind_5 : decode cX1_stateBehind 5 = .ok (.iload_n 1, 1) := by decide +kernel
theorem dX1_stateBehind_6 : decode cX1_stateBehind 6 = .ok (.bipush 40, 2) := by decide +kernel
theorem dX1_stateBehind_8 : decode cX1_stateBehind 8 = .ok (.if_icmp .gt 14, 3) := by decide +kernel
theorem dX1_stateBehind_11 : decode cX1_stateBehind 11 = .ok (.aload_n 0, 1) := by decide +kernel
theorem dX1_stateBehind_12 : decode cX1_stateBehind 12 = .ok (.getfield 32, 3) := by decide +kernel
theorem dX1_stateBehind_15 : decode cX1_stateBehind 15 = .ok (.iload_n 1, 1) := by decide +kernel
theorem dX1_stateBehind_16 : decode cX1_stateBehind 16 = .ok (.iconst 1, 1) := by decide +kernel
theorem dX1_stateBehind_17 : decode cX1_stateBehind 17 = .ok (.isub, 1) := by decide +kernel
theorem dX1_stateBehind_18 : decode cX1_stateBehind 18 = .ok (.aaload, 1) := by decide +kernel
theorem dX1_stateBehind_19 : decode cX1_stateBehind 19 = .ok (.ifnonnull 7, 3) := by decide +kernel
theorem dX1_stateBehind_22 : decode cX1_stateBehind 22 = .ok (.aload_n 2, 1) := by decide +kernel
theorem dX1_stateBehind_23 : decode cX1_stateBehind 23 = .ok (.goto 11, 3) := by decide +kernel
theorem dX1_stateBehind_26 : decode cX1_stateBehind 26 = .ok (.aload_n 0, 1) := by decide +kernel
theorem dX1_stateBehind_27 : decode cX1_stateBehind 27 = .ok (.getfield 32, 3) := by decide +kernel
theorem dX1_stateBehind_30 : decode cX1_stateBehind 30 = .ok (.iload_n 1, 1) := by decide +kernel
theorem dX1_stateBehind_31 : decode cX1_stateBehind 31 = .ok (.iconst 1, 1) := by decide +kernel
theorem dX1_stateBehind_32 : decode cX1_stateBehind 32 = .ok (.isub, 1) := by decide +kernel
theorem dX1_stateBehind_33 : decode cX1_stateBehind 33 = .ok (.aaload, 1) := by decide +kernel
theorem dX1_stateBehind_34 : decode cX1_stateBehind 34 = .ok (.areturn, 1) := by decide +kernel
theorem dX1_addChecked_0 : decode cX1_addChecked 0 = .ok (.aload_n 0, 1) := by decide +kernel
theorem dX1_addChecked_1 : decode cX1_addChecked 1 = .ok (.getfield 72, 3) := by decide +kernel
theorem dX1_addChecked_4 : decode cX1_addChecked 4 = .ok (.aload_n 0, 1) := by decide +kernel
theorem dX1_addChecked_5 : decode cX1_addChecked 5 = .ok (.getfield 69, 3) := by decide +kernel
theorem dX1_addChecked_8 : decode cX1_addChecked 8 = .ok (.if_icmp .ge 23, 3) := by decide +kernel
theorem dX1_addChecked_11 : decode cX1_addChecked 11 = .ok (.aload_n 0, 1) := by decide +kernel
theorem dX1_addChecked_12 : decode cX1_addChecked 12 = .ok (.getfield 32, 3) := by decide +kernel
theorem dX1_addChecked_15 : decode cX1_addChecked 15 = .ok (.aload_n 0, 1) := by decide +kernel
theorem dX1_addChecked_16 : decode cX1_addChecked 16 = .ok (.getfield 72, 3) := by decide +kernel
theorem dX1_addChecked_19 : decode cX1_addChecked 19 = .ok (.aload_n 1, 1) := by decide +kernel
theorem dX1_addChecked_20 : decode cX1_addChecked 20 = .ok (.aastore, 1) := by decide +kernel
theorem dX1_addChecked_21 : decode cX1_addChecked 21 = .ok (.aload_n 0, 1) := by decide +kernel
theorem dX1_addChecked_22 : decode cX1_addChecked 22 = .ok (.dup, 1) := by decide +kernel
theorem dX1_addChecked_23 : decode cX1_addChecked 23 = .ok (.getfield 72, 3) := by decide +kernel
theorem dX1_addChecked_26 : decode cX1_addChecked 26 = .ok (.iconst 1, 1) := by decide +kernel
theorem dX1_addChecked_27 : decode cX1_addChecked 27 = .ok (.iadd, 1) := by decide +kernel
theorem dX1_addChecked_28 : decode cX1_addChecked 28 = .ok (.putfield 72, 3) := by decide +kernel
theorem dX1_addChecked_31 : decode cX1_addChecked 31 = .ok (.return_, 1) := by decide +kernel
theorem dX8_isReady_0 : decode cX8_isReady 0 = .ok (.aload_n 0, 1) := by decide +kernel
theorem dX8_isReady_1 : decode cX8_isReady 1 = .ok (.getfield 47, 3) := by decide +kernel
theorem dX8_isReady_4 : decode cX8_isReady 4 = .ok (.ifnull 17, 3) := by decide +kernel
theorem dX8_isReady_7 : decode cX8_isReady 7 = .ok (.aload_n 0, 1) := by decide +kernel
theorem dX8_isReady_8 : decode cX8_isReady 8 = .ok (.getfield 47, 3) := by decide +kernel
theorem dX8_isReady_11 : decode cX8_isReady 11 = .ok (.getfield 51, 3) := by decide +kernel
theorem dX8_isReady_14 : decode cX8_isReady 14 = .ok (.aload_n 0, 1) := by decide +kernel
theorem dX8_isReady_15 : decode cX8_isReady 15 = .ok (.getfield 56, 3) := by decide +kernel
theorem dX8_isReady_18 : decode cX8_isReady 18 = .ok (.if_icmp .lt 7, 3) := by decide +kernel
theorem dX8_isReady_21 : decode cX8_isReady 21 = .ok (.iconst 1, 1) := by decide +kernel
theorem dX8_isReady_22 : decode cX8_isReady 22 = .ok (.goto 4, 3) := by decide +kernel
theorem dX8_isReady_25 : decode cX8_isReady 25 = .ok (.iconst 0, 1) := by decide +kernel
theorem dX8_isReady_26 : decode cX8_isReady 26 = .ok (.ireturn, 1) := by decide +kernel
theorem dX9_isSameRow_0 : decode cX9_isSameRow 0 = .ok (.aload_n 0, 1) := by decide +kernel
theorem dX9_isSameRow_1 : decode cX9_isSameRow 1 = .ok (.astore_n 2, 1) := by decide +kernel
theorem dX9_isSameRow_2 : decode cX9_isSameRow 2 = .ok (.aload_n 1, 1) := by decide +kernel
theorem dX9_isSameRow_3 : decode cX9_isSameRow 3 = .ok (.astore_n 3, 1) := by decide +kernel
theorem dX9_isSameRow_4 : decode cX9_isSameRow 4 = .ok (.iconst 0, 1) := by decide +kernel
theorem dX9_isSameRow_5 : decode cX9_isSameRow 5 = .ok (.istore 4, 2) := by decide +kernel
theorem dX9_isSameRow_7 : decode cX9_isSameRow 7 = .ok (.iload 4, 2) := by decide +kernel
theorem dX9_isSameRow_9 : decode cX9_isSameRow 9 = .ok (.bipush 41, 2) := by decide +kernel
theorem dX9_isSameRow_11 : decode cX9_isSameRow 11 = .ok (.if_icmp .gt 87, 3) := by decide +kernel
theorem dX9_isSameRow_14 : decode cX9_isSameRow 14 = .ok (.aload_n 2, 1) := by decide +kernel
theorem dX9_isSameRow_15 : decode cX9_isSameRow 15 = .ok (.aload_n 3, 1) := by decide +kernel
theorem dX9_isSameRow_16 : decode cX9_isSameRow 16 = .ok (.if_acmp .ne 5, 3) := by decide +kernel
theorem dX9_isSameRow_19 : decode cX9_isSameRow 19 = .ok (.iconst 1, 1) := by decide +kernel
theorem dX9_isSameRow_20 : decode cX9_isSameRow 20 = .ok (.ireturn, 1) := by decide +kernel
theorem dX9_isSameRow_21 : decode cX9_isSameRow 21 = .ok (.aload_n 2, 1) := by decide +kernel
theorem dX9_isSameRow_22 : decode cX9_isSameRow 22 = .ok (.ifnull 20, 3) := by decide +kernel
theorem dX9_isSameRow_25 : decode cX9_isSameRow 25 = .ok (.aload_n 3, 1) := by decide +kernel
theorem dX9_isSameRow_26 : decode cX9_isSameRow 26 = .ok (.ifnull 16, 3) := by decide +kernel
theorem dX9_isSameRow_29 : decode cX9_isSameRow 29 = .ok (.aload_n 2, 1) := by decide +kernel
theorem dX9_isSameRow_30 : decode cX9_isSameRow 30 = .ok (.getfield 40, 3) := by decide +kernel
theorem dX9_isSameRow_33 : decode cX9_isSameRow 33 = .ok (.arraylength, 1) := by decide +kernel
theorem dX9_isSameRow_34 : decode cX9_isSameRow 34 = .ok (.aload_n 3, 1) := by decide +kernel
theorem dX9_isSameRow_35 : decode cX9_isSameRow 35 = .ok (.getfield 40, 3) := by decide +kernel
theorem dX9_isSameRow_38 : decode cX9_isSameRow 38 = .ok (.arraylength, 1) := by decide +kernel
theorem dX9_isSameRow_39 : decode cX9_isSameRow 39 = .ok (.if_icmp .eq 5, 3) := by decide +kernel
theorem dX9_isSameRow_42 : decode cX9_isSameRow 42 = .ok (.iconst 0, 1) := by decide +kernel
theorem dX9_isSameRow_43 : decode cX9_isSameRow 43 = .ok (.ireturn, 1) := by decide +kernel
theorem dX9_isSameRow_44 : decode cX9_isSameRow 44 = .ok (.iconst 0, 1) := by decide +kernel
theorem dX9_isSameRow_45 : decode cX9_isSameRow 45 = .ok (.istore 5, 2) := by decide +kernel
theorem dX9_isSameRow_47 : decode cX9_isSameRow 47 = .ok (.iload 5, 2) := by decide +kernel
theorem dX9_isSameRow_49 : decode cX9_isSameRow 49 = .ok (.aload_n 2, 1) := by decide +kernel
theorem dX9_isSameRow_50 : decode cX9_isSameRow 50 = .ok (.getfield 40, 3) := by decide +kernel
theorem dX9_isSameRow_53 : decode cX9_isSameRow 53 = .ok (.arraylength, 1) := by decide +kernel
theorem dX9_isSameRow_54 : decode cX9_isSameRow 54 = .ok (.if_icmp .ge 28, 3) := by decide +kernel
theorem dX9_isSameRow_57 : decode cX9_isSameRow 57 = .ok (.aload_n 2, 1) := by decide +kernel
theorem dX9_isSameRow_58 : decode cX9_isSameRow 58 = .ok (.getfield 40, 3) := by decide +kernel
theorem dX9_isSameRow_61 : decode cX9_isSameRow 61 = .ok (.iload 5, 2) := by decide +kernel
theorem dX9_isSameRow_63 : decode cX9_isSameRow 63 = .ok (.iaload, 1) := by decide +kernel
theorem dX9_isSameRow_64 : decode cX9_isSameRow 64 = .ok (.aload_n 3, 1) := by decide +kernel
theorem dX9_isSameRow_65 : decode cX9_isSameRow 65 = .ok (.getfield 40, 3) := by decide +kernel
theorem dX9_isSameRow_68 : decode cX9_isSameRow 68 = .ok (.iload 5, 2) := by decide +kernel
theorem dX9_isSameRow_70 : decode cX9_isSameRow 70 = .ok (.iaload, 1) := by decide +kernel
theorem dX9_isSameRow_71 : decode cX9_isSameRow 71 = .ok (.if_icmp .eq 5, 3) := by decide +kernel
theorem dX9_isSameRow_74 : decode cX9_isSameRow 74 = .ok (.iconst 0, 1) := by decide +kernel
theorem dX9_isSameRow_75 : decode cX9_isSameRow 75 = .ok (.ireturn, 1) := by decide +kernel
theorem dX9_isSameRow_76 : decode cX9_isSameRow 76 = .ok (.iinc 5 1, 3) := by decide +kernel
theorem dX9_isSameRow_79 : decode cX9_isSameRow 79 = .ok (.goto (-32), 3) := by decide +kernel
theorem dX9_isSameRow_82 : decode cX9_isSameRow 82 = .ok (.aload_n 2, 1) := by decide +kernel
theorem dX9_isSameRow_83 : decode cX9_isSameRow 83 = .ok (.getfield 36, 3) := by decide +kernel
theorem dX9_isSameRow_86 : decode cX9_isSameRow 86 = .ok (.astore_n 2, 1) := by decide +kernel
theorem dX9_isSameRow_87 : decode cX9_isSameRow 87 = .ok (.aload_n 3, 1) := by decide +kernel
theorem dX9_isSameRow_88 : decode cX9_isSameRow 88 = .ok (.getfield 36, 3) := by decide +kernel
theorem dX9_isSameRow_91 : decode cX9_isSameRow 91 = .ok (.astore_n 3, 1) := by decide +kernel
theorem dX9_isSameRow_92 : decode cX9_isSameRow 92 = .ok (.iinc 4 1, 3) := by decide +kernel
theorem dX9_isSameRow_95 : decode cX9_isSameRow 95 = .ok (.goto (-88), 3) := by decide +kernel
theorem dX9_isSameRow_98 : decode cX9_isSameRow 98 = .ok (.iconst 0, 1) := by decide +kernel
theorem dX9_isSameRow_99 : decode cX9_isSameRow 99 = .ok (.ireturn, 1) := by decide +kernel
theorem dX9_symbolOf_0 : decode cX9_symbolOf 0 = .ok (.iconst 0, 1) := by decide +kernel
theorem dX9_symbolOf_1 : decode cX9_symbolOf 1 = .ok (.istore_n 2, 1) := by decide +kernel
theorem dX9_symbolOf_2 : decode cX9_symbolOf 2 = .ok (.iload_n 2, 1) := by decide +kernel
theorem dX9_symbolOf_3 : decode cX9_symbolOf 3 = .ok (.aload_n 0, 1) := by decide +kernel
theorem dX9_symbolOf_4 : decode cX9_symbolOf 4 = .ok (.getfield 9, 3) := by decide +kernel
theorem dX9_symbolOf_7 : decode cX9_symbolOf 7 = .ok (.arraylength, 1) := by decide +kernel
theorem dX9_symbolOf_8 : decode cX9_symbolOf 8 = .ok (.if_icmp .ge 29, 3) := by decide +kernel
theorem dX9_symbolOf_11 : decode cX9_symbolOf 11 = .ok (.aload_n 0, 1) := by decide +kernel
theorem dX9_symbolOf_12 : decode cX9_symbolOf 12 = .ok (.getfield 9, 3) := by decide +kernel
theorem dX9_symbolOf_15 : decode cX9_symbolOf 15 = .ok (.iload_n 2, 1) := by decide +kernel
theorem dX9_symbolOf_16 : decode cX9_symbolOf 16 = .ok (.iaload, 1) := by decide +kernel
theorem dX9_symbolOf_17 : decode cX9_symbolOf 17 = .ok (.bipush 15, 2) := by decide +kernel
theorem dX9_symbolOf_19 : decode cX9_symbolOf 19 = .ok (.ishr, 1) := by decide +kernel
theorem dX9_symbolOf_20 : decode cX9_symbolOf 20 = .ok (.iload_n 1, 1) := by decide +kernel
theorem dX9_symbolOf_21 : decode cX9_symbolOf 21 = .ok (.if_icmp .ne 10, 3) := by decide +kernel
theorem dX9_symbolOf_24 : decode cX9_symbolOf 24 = .ok (.aload_n 0, 1) := by decide +kernel
theorem dX9_symbolOf_25 : decode cX9_symbolOf 25 = .ok (.getfield 9, 3) := by decide +kernel
theorem dX9_symbolOf_28 : decode cX9_symbolOf 28 = .ok (.iload_n 2, 1) := by decide +kernel
theorem dX9_symbolOf_29 : decode cX9_symbolOf 29 = .ok (.iaload, 1) := by decide +kernel
theorem dX9_symbolOf_30 : decode cX9_symbolOf 30 = .ok (.ireturn, 1) := by decide +kernel
theorem dX9_symbolOf_31 : decode cX9_symbolOf 31 = .ok (.iinc 2 1, 3) := by decide +kernel
theorem dX9_symbolOf_34 : decode cX9_symbolOf 34 = .ok (.goto (-32), 3) := by decide +kernel
theorem dX9_symbolOf_37 : decode cX9_symbolOf 37 = .ok (.iconst (-1), 1) := by decide +kernel
theorem dX9_symbolOf_38 : decode cX9_symbolOf 38 = .ok (.ireturn, 1) := by decide +kernel
def EX9_symbolOf : List (Nat × Nat) := []
def EX1_stateBehind : List (Nat × Nat) := []
set_option maxHeartbeats 4000000 in
set_option maxRecDepth 20000 in
theorem uX9_symbolOf (l : Launch) (dC : Nat → ClassId) (dI : Nat → Nat → Nat) (ca : Nat → ClassId) (base : Nat) (B : jF) (hB : jBok B) (hAp : jAp (dC, dI)) (hB11 : ∀ n G a H, B 11 n G a H ↔ jOb (dC, dI) 11 9 (F11 n G) a H) (hB101 : ∀ n G a H, B 101 n G a H ↔ jAr (dC, dI) (ca 1) (fun j z => True) n a H) (G0 : jT) (H0 : Heap) (r0 : Nat) (a1 : Int32) : Met l yX9_symbolOf (jw yX9_symbolOf cX9_symbolOf 3 (some .int)) ({ frames := 0, cells := 0, slots := 0, locals := 0 }) (va_Pc [.ref r0, .int a1] (fun U => U.heap = H0 ∧ jX B base G0 [] H0 ∧ jG dC dI ca base U ∧ G0 r0 = some (11, 0) ∧ jP (dC, dI) G0 H0 [] ∧ True)) (va_Qi (S := Unit) (fun r u => (True)) (fun u t => jRt (dC, dI) B base G0 EX9_symbolOf H0 [] t.heap) (jA base)) 0 0 (jA base) := by
  refine Met.ofW (cc := cX9_symbolOf) (maxL := 3) (ret := (some .int)) (by decide) rfl ?_
  intro p e s m args below meth c s₁ Bd hml hv
  obtain ⟨rfl, hH0, hX, hG, hg_r0, hP0, hp0⟩ := hv
  have hK := hG.1
  have hx := Bd.exec
  have hb := Bd.bytes
  have hr := Bd.returns
  have hts := atoms_spec (ws := (jw yX9_symbolOf cX9_symbolOf 3 (some .int))) Bd.pre
  have htw : ∀ w ∈ jWl, w.before _ s = true := fun w h => hts w (List.mem_cons_of_mem _ h)
  have hown : s.vm.findClass RX9 = some m.cls := findClass_of_methodNamed Bd.named
  have hlocks := Bd.notSynchronized
  obtain ⟨Q, hQ⟩ : ∃ Q, Q = MQ below (va_Qi (S := Unit) (fun r u => (True)) (fun u t => jRt (dC, dI) B base G0 EX9_symbolOf H0 [] t.heap) (jA base)) ([.ref r0, .int a1] : List Value).toArray s 0 0 (jA base) := ⟨_, rfl⟩
  rw [← hQ]
  have hl := lv_entry ([.ref r0, .int a1]) (n := 3) (Nat.le_of_ble_eq_true rfl)
  rw [lg_entry_eq]
  generalize (lg_sl ([.ref r0, .int a1]) ++ List.replicate (3 - (lg_sl ([.ref r0, .int a1])).length) Slot.unset).toArray = ls at hl ⊢
  have hl : lv_has ls 3 [(0, .ref r0), (1, .int a1)] := hl
  generalize hR : (headSpec (jw yX9_symbolOf cX9_symbolOf 3 (some .int)) ({ frames := 0, cells := 0, slots := 0, locals := 0 })).room = R
  subst hH0
  have hh : jSt (dC, dI) B base G0 G0 EX9_symbolOf s.heap 0 0 [] [] [] s.heap [] := jSt.start hX hP0 jMc.nil jIs.nil
  clear hX hP0
  have hkm1 : ((-1) : Int32).toInt = (-1) := by decide
  have hk0 : (0 : Int32).toInt = 0 := by decide
  have hk1 : (1 : Int32).toInt = 1 := by decide
  have hk15 : (15 : Int32).toInt = 15 := by decide
  have hly_11_3 := htw (u_lay RX9 TX9 3) (jWc_wsX90 _ (u_in_lay (by decide)))
  have hlk_9 := (htw (.fieldLink RX9 9 "ProofServer$State" "symbols" "[I") (jWr_8 _ (List.mem_of_getElem? (i := 17) rfl)))
  have hrg_a1 := jb_rng a1
  refine lv_iconst (v := 0) hx hb dX9_symbolOf_0 (by decide) ?_
  refine lv_istore_n (lv' := [(2, .int 0), (0, .ref r0), (1, .int a1)]) hx hb dX9_symbolOf_1 rfl hl (by decide) rfl (fun ls hl => ?_)
  obtain ⟨v_1, hv_1, hh_2⟩ := hh.pin (C := RX9) (T := TX9) (N := 9) hB11 rfl (by decide) hg_r0 (i := 3) (by decide) rfl
  obtain ⟨symbols_3, nsymbols_3, rfl, hg_symbols_3, hn_symbols_3⟩ := hv_1
  have L2 : ∀ (N : Nat) (v2_4 : Int32) (H_4 : Heap) (locs_4 : List Loc), jSt (dC, dI) B base G0 G0 EX9_symbolOf s.heap 0 0 [(r0, 11, 3, .ref symbols_3)] [] [] H_4 locs_4 → (0 ≤ v2_4.toInt ∧ v2_4.toInt ≤ 16) → (17 - v2_4.toInt : Int) < N → ∀ ls : Array Slot, lv_has ls 3 [(0, .ref r0), (1, .int a1), (2, .int v2_4)] → W p l e R s m ([.ref r0, .int a1] : List Value).toArray below meth c H_4 locs_4 0 0 Q (F0 m 2 ls []) := by
    intro N
    induction N with
    | zero => intro v2_4 H_4 locs_4 hh_4  hi_4 hm; exact absurd hm (by omega)
    | succ N L2 =>
      intro v2_4 H_4 locs_4 hh_4  hi_4 hm_4 ls hl
      obtain ⟨hi_4_0, hi_4_1⟩ := hi_4
      refine lv_iload_n hx hb dX9_symbolOf_2 rfl (lv_at hl 2 rfl) ?_
      refine lv_aload_n hx hb dX9_symbolOf_3 rfl (lv_at hl 0 rfl) ?_
      refine j7_read hx hb hown hK (C := RX9) (T := TX9) (N := 9) rfl hly_11_3 hlk_9 (hh_4.at 0 rfl) dX9_symbolOf_4 ?_
      refine j7_len hx hb hK hh_4 hB101 1 rfl (by decide) hg_symbols_3 (by omega) dX9_symbolOf_7 (fun z_5 hz_5 => ?_)
      refine lv_icmp_ge (tgt := 37) hx hb dX9_symbolOf_8 (by decide) (fun c_6 => ?_) (fun c_6 => ?_)
      · skip
        have c_6' : v2_4.toInt ≥ z_5.toInt := jb_ge (rfl) (rfl) c_6
        refine lv_iconst (v := (-1)) hx hb dX9_symbolOf_37 (by decide) ?_
        rw [hQ]
        exact W.iret (v := (-1)) hx hb hr (fun t ht hW => ⟨⟨(-1), (), rfl, trivial, hh_4.rt (M1 := []) [] rfl ht⟩, by rw [ht]; try exact hh_4.1.1, fun q h9 hq => by rw [ht]; try exact hh_4.1.2.1 q h9 hq⟩) hh_4.1.2.2 dX9_symbolOf_38
      · skip
        have c_6' : v2_4.toInt < z_5.toInt := jb_ge_n (rfl) (rfl) c_6
        refine lv_aload_n hx hb dX9_symbolOf_11 rfl (lv_at hl 0 rfl) ?_
        refine j7_read hx hb hown hK (C := RX9) (T := TX9) (N := 9) rfl hly_11_3 hlk_9 (hh_4.at 0 rfl) dX9_symbolOf_12 ?_
        refine lv_iload_n hx hb dX9_symbolOf_15 rfl (lv_at hl 2 rfl) ?_
        refine j7_iald hx hb hK hh_4 hB101 1 rfl (by decide) hg_symbols_3 (x := v2_4.toInt) (rfl) (by omega) dX9_symbolOf_16 (fun z_7 (hz_7 : True) => ?_)
        refine lv_bipush (v := 15) hx hb dX9_symbolOf_17 (by decide) ?_
        refine lv_ishr hx hb dX9_symbolOf_19 ?_
        refine lv_topi (fun z_8 ez_8 => ?_)
        have hz_8 : z_8.toInt = z_7.toInt / 2 ^ 15 := by rw [ez_8]; exact jb_ishr 15 (rfl) (by decide)
        refine lv_iload_n hx hb dX9_symbolOf_20 rfl (lv_at hl 1 rfl) ?_
        refine lv_icmp_ne (tgt := 31) hx hb dX9_symbolOf_21 (by decide) (fun c_9 => ?_) (fun c_9 => ?_)
        · skip
          have c_9' : z_8.toInt ≠ a1.toInt := jb_ne (rfl) (rfl) c_9
          obtain ⟨z_10, ez_10⟩ : ∃ y : Int32, y = v2_4 + 1 := ⟨_, rfl⟩
          refine lv_iinc (v := z_10) (lv' := [(2, .int z_10), (0, .ref r0), (1, .int a1)]) hx hb dX9_symbolOf_31 hl (k := 2) rfl (by rw [ez_10]; rfl) (by decide) rfl (fun ls hl => ?_)
          have hz_10 : z_10.toInt = v2_4.toInt + 1 := by rw [ez_10]; exact jb_iadd2 (rfl) (by decide) (by omega)
          refine lv_goto (tgt := 2) hx hb dX9_symbolOf_34 (by decide) ?_
          exact L2 z_10 _ _ hh_4 (by first | omega | (refine ⟨?_, ?_⟩ <;> (first | omega | rfl | assumption | decide | exact Or.inl rfl | exact Or.inr rfl | (simp only; omega)))) (by omega) _ (lv_sub hl [1, 2, 0] rfl)
        · skip
          have c_9' : z_8.toInt = a1.toInt := jb_ne_n (rfl) (rfl) c_9
          refine lv_aload_n hx hb dX9_symbolOf_24 rfl (lv_at hl 0 rfl) ?_
          refine j7_read hx hb hown hK (C := RX9) (T := TX9) (N := 9) rfl hly_11_3 hlk_9 (hh_4.at 0 rfl) dX9_symbolOf_25 ?_
          refine lv_iload_n hx hb dX9_symbolOf_28 rfl (lv_at hl 2 rfl) ?_
          refine j7_iald hx hb hK hh_4 hB101 1 rfl (by decide) hg_symbols_3 (x := v2_4.toInt) (rfl) (by omega) dX9_symbolOf_29 (fun z_11 (hz_11 : True) => ?_)
          rw [hQ]
          exact W.iret (v := z_11) hx hb hr (fun t ht hW => ⟨⟨z_11, (), rfl, trivial, hh_4.rt (M1 := []) [] rfl ht⟩, by rw [ht]; try exact hh_4.1.1, fun q h9 hq => by rw [ht]; try exact hh_4.1.2.1 q h9 hq⟩) hh_4.1.2.2 dX9_symbolOf_30
  exact L2 (17 - (0 : Int32).toInt : Int).toNat.succ 0 _ _ hh_2 (by first | omega | (refine ⟨?_, ?_⟩ <;> (first | omega | rfl | assumption | decide | exact Or.inl rfl | exact Or.inr rfl | (simp only; omega)))) (by omega) _ (lv_sub hl [1, 2, 0] rfl)
set_option maxHeartbeats 4000000 in
set_option maxRecDepth 20000 in
theorem uX1_stateBehind (l : Launch) (dC : Nat → ClassId) (dI : Nat → Nat → Nat) (ca : Nat → ClassId) (base : Nat) (B : jF) (hB : jBok B) (hAp : jAp (dC, dI)) (hB3 : ∀ n G a H, B 3 n G a H ↔ jOb (dC, dI) 3 17 (F3 n G) a H) (hB11 : ∀ n G a H, B 11 n G a H ↔ jOb (dC, dI) 11 9 (F11 n G) a H) (hB210 : ∀ n G a H, B 210 n G a H ↔ jAq (dC, dI) (ca 6) (jQn 11 0) n G a H) (G0 : jT) (H0 : Heap) (r0 : Nat) (a1 : Int32) (r2 : Nat) (n0 : Nat) : Met l yX1_stateBehind (jw yX1_stateBehind cX1_stateBehind 3 (some (.object "ProofServer$State"))) ({ frames := 0, cells := 0, slots := 0, locals := 0 }) (va_Pc [.ref r0, .int a1, .ref r2] (fun U => U.heap = H0 ∧ jX B base G0 [] H0 ∧ jG dC dI ca base U ∧ jK2 dC dI ca U ∧ G0 r0 = some (3, n0) ∧ G0 r2 = some (11, 0) ∧ jP (dC, dI) G0 H0 [] ∧ True)) (jQx (S := Unit) (fun v u => jRf G0 11 0 v) (fun u t => jRt (dC, dI) B base G0 EX1_stateBehind H0 [] t.heap) (jA base)) 0 0 (jA base) := by
  refine Met.ofW (cc := cX1_stateBehind) (maxL := 3) (ret := (some (.object "ProofServer$State"))) (by decide) rfl ?_
  intro p e s m args below meth c s₁ Bd hml hv
  obtain ⟨rfl, hH0, hX, hG, hK2, hg_r0, hg_r2, hP0, hp0⟩ := hv
  have hK := hG.1
  have hx := Bd.exec
  have hb := Bd.bytes
  have hr := Bd.returns
  have hts := atoms_spec (ws := (jw yX1_stateBehind cX1_stateBehind 3 (some (.object "ProofServer$State")))) Bd.pre
  have htw : ∀ w ∈ jWl, w.before _ s = true := fun w h => hts w (List.mem_cons_of_mem _ h)
  have hown : s.vm.findClass RX1 = some m.cls := findClass_of_methodNamed Bd.named
  have hlocks := Bd.notSynchronized
  obtain ⟨Q, hQ⟩ : ∃ Q, Q = MQ below (jQx (S := Unit) (fun v u => jRf G0 11 0 v) (fun u t => jRt (dC, dI) B base G0 EX1_stateBehind H0 [] t.heap) (jA base)) ([.ref r0, .int a1, .ref r2] : List Value).toArray s 0 0 (jA base) := ⟨_, rfl⟩
  rw [← hQ]
  have hl := lv_entry ([.ref r0, .int a1, .ref r2]) (n := 3) (Nat.le_of_ble_eq_true rfl)
  rw [lg_entry_eq]
  generalize (lg_sl ([.ref r0, .int a1, .ref r2]) ++ List.replicate (3 - (lg_sl ([.ref r0, .int a1, .ref r2])).length) Slot.unset).toArray = ls at hl ⊢
  have hl : lv_has ls 3 [(0, .ref r0), (1, .int a1), (2, .ref r2)] := hl
  generalize hR : (headSpec (jw yX1_stateBehind cX1_stateBehind 3 (some (.object "ProofServer$State"))) ({ frames := 0, cells := 0, slots := 0, locals := 0 })).room = R
  subst hH0
  have hh : jSt (dC, dI) B base G0 G0 EX1_stateBehind s.heap 0 0 [] [] [] s.heap [] := jSt.start hX hP0 jMc.nil jIs.nil
  clear hX hP0
  have hk0 : (0 : Int32).toInt = 0 := by decide
  have hk1 : (1 : Int32).toInt = 1 := by decide
  have hk40 : (40 : Int32).toInt = 40 := by decide
  have hly_3_9 := htw (u_lay RX1 TX1 9) (jWc_wsX10 _ (u_in_lay (by decide)))
  have hlk_32 := (htw (.fieldLink RX1 32 "ProofServer$Document" "behind" "[LProofServer$State;") (jWr_10 _ (List.mem_of_getElem? (i := 12) rfl)))
  have hrg_a1 := jb_rng a1
  refine lv_iload_n hx hb dX1_stateBehind_0 rfl (lv_at hl 1 rfl) ?_
  refine lv_iconst (v := 1) hx hb dX1_stateBehind_1 (by decide) ?_
  refine lv_icmp_lt (tgt := 22) hx hb dX1_stateBehind_2 (by decide) (fun c_1 => ?_) (fun c_1 => ?_)
  · skip
    have c_1' : a1.toInt < 1 := jb_lt (rfl) ((by decide)) c_1
    refine lv_aload_n hx hb dX1_stateBehind_22 rfl (lv_at hl 2 rfl) ?_
    refine lv_goto (tgt := 34) hx hb dX1_stateBehind_23 (by decide) ?_
    rw [hQ]
    exact W.aret (v := .ref r2) hx hb hr (Or.inl ⟨_, rfl⟩) (Or.inr ⟨_, rfl⟩) (fun t ht hW => ⟨⟨.ref r2, (), rfl, ⟨_, rfl, hg_r2⟩, hh.rt (M1 := []) [] rfl ht⟩, by rw [ht]; try exact hh.1.1, fun q h9 hq => by rw [ht]; try exact hh.1.2.1 q h9 hq⟩) hh.1.2.2 dX1_stateBehind_34
  · skip
    have c_1' : a1.toInt ≥ 1 := jb_lt_n (rfl) ((by decide)) c_1
    refine lv_iload_n hx hb dX1_stateBehind_5 rfl (lv_at hl 1 rfl) ?_
    refine lv_bipush (v := 40) hx hb dX1_stateBehind_6 (by decide) ?_
    refine lv_icmp_gt (tgt := 22) hx hb dX1_stateBehind_8 (by decide) (fun c_2 => ?_) (fun c_2 => ?_)
    · skip
      have c_2' : a1.toInt > 40 := jb_gt (rfl) ((by decide)) c_2
      refine lv_aload_n hx hb dX1_stateBehind_22 rfl (lv_at hl 2 rfl) ?_
      refine lv_goto (tgt := 34) hx hb dX1_stateBehind_23 (by decide) ?_
      rw [hQ]
      exact W.aret (v := .ref r2) hx hb hr (Or.inl ⟨_, rfl⟩) (Or.inr ⟨_, rfl⟩) (fun t ht hW => ⟨⟨.ref r2, (), rfl, ⟨_, rfl, hg_r2⟩, hh.rt (M1 := []) [] rfl ht⟩, by rw [ht]; try exact hh.1.1, fun q h9 hq => by rw [ht]; try exact hh.1.2.1 q h9 hq⟩) hh.1.2.2 dX1_stateBehind_34
    · skip
      have c_2' : a1.toInt ≤ 40 := jb_gt_n (rfl) ((by decide)) c_2
      obtain ⟨v_3, hv_3, hh_4⟩ := hh.pin (C := RX1) (T := TX1) (N := 17) hB3 rfl (by decide) hg_r0 (i := 9) (by decide) rfl
      obtain ⟨behind_5, rfl, hg_behind_5⟩ := hv_3
      obtain ⟨fq_6, hfq_6a, hfq_6p⟩ := hh_4.aq hB210 (by decide) hg_behind_5
      have hh_7 := hh_4.addI (jQc.ie hfq_6a hg_behind_5 (by decide) (by decide))
      clear hh_4
      refine lv_aload_n hx hb dX1_stateBehind_11 rfl (lv_at hl 0 rfl) ?_
      refine j7_read hx hb hown hK (C := RX1) (T := TX1) (N := 17) rfl hly_3_9 hlk_32 (hh_7.at 0 rfl) dX1_stateBehind_12 ?_
      refine lv_iload_n hx hb dX1_stateBehind_15 rfl (lv_at hl 1 rfl) ?_
      refine lv_iconst (v := 1) hx hb dX1_stateBehind_16 (by decide) ?_
      refine lv_isub hx hb dX1_stateBehind_17 ?_
      refine lv_topi (fun z_8 ez_8 => ?_)
      have hz_8 : z_8.toInt = a1.toInt - 1 := by rw [ez_8]; exact jb_isub2 (rfl) ((by decide)) (by omega)
      refine j7_qaldI hx hb hK2 hh_7 hB210 2 rfl (by decide) hg_behind_5 (x := z_8.toInt) (rfl) (by omega) (hh_7.iv 0 rfl) dX1_stateBehind_18 (fun o_9 ho_9 heo_9 => ?_)
      rw [show z_8.toInt = (a1.toInt - 1) by omega] at heo_9
      rcases ho_9 with rfl | ⟨el_10, rfl, hg_el_10⟩
      · simp only [va_rf]
        refine lv_ifnonnullN hx hb dX1_stateBehind_19 ?_
        refine lv_aload_n hx hb dX1_stateBehind_22 rfl (lv_at hl 2 rfl) ?_
        refine lv_goto (tgt := 34) hx hb dX1_stateBehind_23 (by decide) ?_
        rw [hQ]
        exact W.aret (v := .ref r2) hx hb hr (Or.inl ⟨_, rfl⟩) (Or.inr ⟨_, rfl⟩) (fun t ht hW => ⟨⟨.ref r2, (), rfl, ⟨_, rfl, hg_r2⟩, hh_7.rt (M1 := []) [] rfl ht⟩, by rw [ht]; try exact hh_7.1.1, fun q h9 hq => by rw [ht]; try exact hh_7.1.2.1 q h9 hq⟩) hh_7.1.2.2 dX1_stateBehind_34
      · simp only [va_rf]
        refine lv_ifnonnull (tgt := 26) hx hb dX1_stateBehind_19 (by decide) ?_
        refine lv_aload_n hx hb dX1_stateBehind_26 rfl (lv_at hl 0 rfl) ?_
        refine j7_read hx hb hown hK (C := RX1) (T := TX1) (N := 17) rfl hly_3_9 hlk_32 (hh_7.at 0 rfl) dX1_stateBehind_27 ?_
        refine lv_iload_n hx hb dX1_stateBehind_30 rfl (lv_at hl 1 rfl) ?_
        refine lv_iconst (v := 1) hx hb dX1_stateBehind_31 (by decide) ?_
        refine lv_isub hx hb dX1_stateBehind_32 ?_
        refine lv_topi (fun z_11 ez_11 => ?_)
        have hz_11 : z_11.toInt = a1.toInt - 1 := by rw [ez_11]; exact jb_isub2 (rfl) ((by decide)) (by omega)
        refine j7_qaldI hx hb hK2 hh_7 hB210 2 rfl (by decide) hg_behind_5 (x := z_11.toInt) (rfl) (by omega) (hh_7.iv 0 rfl) dX1_stateBehind_33 (fun o_12 ho_12 heo_12 => ?_)
        rw [show z_11.toInt = (a1.toInt - 1) by omega] at heo_12
        rcases ho_12 with rfl | ⟨el_13, rfl, hg_el_13⟩
        · simp only [va_rf]
          exact absurd (heo_12.trans heo_9.symm) (by simp)
        · simp only [va_rf]
          obtain rfl : el_10 = el_13 := (Option.some.inj (heo_12.trans heo_9.symm)).symm
          rw [hQ]
          exact W.aret (v := .ref el_10) hx hb hr (Or.inl ⟨_, rfl⟩) (Or.inr ⟨_, rfl⟩) (fun t ht hW => ⟨⟨.ref el_10, (), rfl, ⟨_, rfl, hg_el_10⟩, hh_7.rt (M1 := []) [] rfl ht⟩, by rw [ht]; try exact hh_7.1.1, fun q h9 hq => by rw [ht]; try exact hh_7.1.2.1 q h9 hq⟩) hh_7.1.2.2 dX1_stateBehind_34
end
section
theorem dX11_release_0 : decode cX11_release 0 = .ok (.aload_n 1, 1) := by decide +kernel
theorem dX11_release_1 : decode cX11_release 1 = .ok (.aconst_null, 1) := by decide +kernel
theorem dX11_release_2 : decode cX11_release 2 = .ok (.putfield 567, 3) := by decide +kernel
theorem dX11_release_5 : decode cX11_release 5 = .ok (.aload_n 1, 1) := by decide +kernel
theorem dX11_release_6 : decode cX11_release 6 = .ok (.aconst_null, 1) := by decide +kernel
theorem dX11_release_7 : decode cX11_release 7 = .ok (.putfield 580, 3) := by decide +kernel
theorem dX11_release_10 : decode cX11_release 10 = .ok (.aload_n 1, 1) := by decide +kernel
theorem dX11_release_11 : decode cX11_release 11 = .ok (.iconst 0, 1) := by decide +kernel
theorem dX11_release_12 : decode cX11_release 12 = .ok (.putfield 577, 3) := by decide +kernel
theorem dX11_release_15 : decode cX11_release 15 = .ok (.iconst 0, 1) := by decide +kernel
theorem dX11_release_16 : decode cX11_release 16 = .ok (.istore_n 2, 1) := by decide +kernel
theorem dX11_release_17 : decode cX11_release 17 = .ok (.iload_n 2, 1) := by decide +kernel
theorem dX11_release_18 : decode cX11_release 18 = .ok (.iconst 2, 1) := by decide +kernel
theorem dX11_release_19 : decode cX11_release 19 = .ok (.if_icmp .ge 26, 3) := by decide +kernel
theorem dX11_release_22 : decode cX11_release 22 = .ok (.aload_n 0, 1) := by decide +kernel
theorem dX11_release_23 : decode cX11_release 23 = .ok (.getfield 73, 3) := by decide +kernel
theorem dX11_release_26 : decode cX11_release 26 = .ok (.iload_n 2, 1) := by decide +kernel
theorem dX11_release_27 : decode cX11_release 27 = .ok (.aaload, 1) := by decide +kernel
theorem dX11_release_28 : decode cX11_release 28 = .ok (.aload_n 1, 1) := by decide +kernel
theorem dX11_release_29 : decode cX11_release 29 = .ok (.if_acmp .ne 10, 3) := by decide +kernel
theorem dX11_release_32 : decode cX11_release 32 = .ok (.aload_n 0, 1) := by decide +kernel
theorem dX11_release_33 : decode cX11_release 33 = .ok (.getfield 73, 3) := by decide +kernel
theorem dX11_release_36 : decode cX11_release 36 = .ok (.iload_n 2, 1) := by decide +kernel
theorem dX11_release_37 : decode cX11_release 37 = .ok (.aconst_null, 1) := by decide +kernel
theorem dX11_release_38 : decode cX11_release 38 = .ok (.aastore, 1) := by decide +kernel
theorem dX11_release_39 : decode cX11_release 39 = .ok (.iinc 2 1, 3) := by decide +kernel
theorem dX11_release_42 : decode cX11_release 42 = .ok (.goto (-25), 3) := by decide +kernel
theorem dX11_release_45 : decode cX11_release 45 = .ok (.return_, 1) := by decide +kernel
end
section
-- what a method writes of some objects only
theorem jn1 {a b : Nat} (h : a ≠ b) : a ∉ [b] := fun q => h (List.mem_singleton.mp q)
theorem jnek2 {G : jT} {a b k n n1 : Nat} (h : G a = some (k, n)) (h1 : G b = some (k, n1)) (hn : n ≠ n1) : a ≠ b := fun e => by
  rw [e, h1] at h
  exact hn (Prod.mk.inj (Option.some.inj h)).2.symm
end
section
def EX0_appendI : List (Nat × Nat) := [(2, 0), (2, 1), (196, 0)]
set_option maxHeartbeats 4000000 in
set_option maxRecDepth 20000 in
theorem uX0_appendI (l : Launch) (dC : Nat → ClassId) (dI : Nat → Nat → Nat) (ca : Nat → ClassId) (base : Nat) (B : jF) (hB : jBok B) (hAp : jAp (dC, dI)) (hB2 : ∀ n G a H, B 2 n G a H ↔ jOb (dC, dI) 2 2 (F2 n G) a H) (hB17 : ∀ n G a H, B 17 n G a H ↔ jOb (dC, dI) 17 2 (F17 n G) a H) (hB196 : ∀ n G a H, B 196 n G a H ↔ jAr (dC, dI) (ca 0) (fun j z => jBf j z) n a H) (hB199 : ∀ n G a H, B 199 n G a H ↔ jAr (dC, dI) (ca 0) (fun j z => jBf j z) n a H) (G0 : jT) (H0 : Heap) (r0 : Nat) (r1 : Nat) (pc : Int32) (pa : Nat) (n_pa : Nat) (LC LS : Nat) : Met l yX0_append (jw yX0_append cX0_append 3 none) ({ frames := 3, cells := LC - H0.size, slots := LS - jTot H0, locals := 83 }) (va_Pc [.ref r0, .ref r1] (fun U => U.heap = H0 ∧ jX B base G0 [] H0 ∧ jG dC dI ca base U ∧ G0 r0 = some (2, 0) ∧ G0 r1 = some (17, 0) ∧ G0 pa = some (196, n_pa) ∧ jP (dC, dI) G0 H0 [(r0, 2, 1, .int pc), (r0, 2, 0, .ref pa)] ∧ H0.size + (1048576 - n_pa) / 16 + 1 ≤ LC ∧ jTot H0 + 2 * (1048576 - n_pa) ≤ LS ∧ 0 ≤ pc.toInt ∧ pc.toInt ≤ n_pa ∧ 16 ≤ n_pa ∧ n_pa ≤ 1048576 ∧ jPw n_pa)) (va_Qv (S := Int32 × Nat × Nat × jT) (fun u => 0 ≤ u.1.toInt ∧ u.1.toInt ≤ u.2.2.1 ∧ n_pa ≤ u.2.2.1 ∧ u.2.2.1 ≤ 1048576 ∧ jPw u.2.2.1) (fun u t => jRa (dC, dI) B base G0 u.2.2.2 EX0_appendI H0 ((u.2.2.1 - n_pa) / 16) (2 * (u.2.2.1 - n_pa)) [(r0, 2, 1, .int u.1), (r0, 2, 0, .ref u.2.1)] t.heap ∧ u.2.2.2 u.2.1 = some (196, u.2.2.1) ∧ (jNk [0, 1, 2, 3, 4, 5, 6, 7, 8, 9, 10, 11, 12, 13, 14, 15, 16, 17, 175]) G0 u.2.2.2 ∧ jOw (dC, dI) G0 2 r0 H0 t.heap) (jA base)) (LC - H0.size) (LS - jTot H0) (jA base) := by
  refine Met.ofW (cc := cX0_append) (maxL := 3) (ret := none) (by decide) rfl ?_
  intro p e s m args below meth c s₁ Bd hml hv
  obtain ⟨rfl, hH0, hX, hG, hg_r0, hg_r1, hg_pa, hP0, hLC0, hLS0, hp0, hp1, hp2, hp3, hp4⟩ := hv
  have hK := hG.1
  have hx := Bd.exec
  have hb := Bd.bytes
  have hr := Bd.returns
  have hts := atoms_spec (ws := (jw yX0_append cX0_append 3 none)) Bd.pre
  have htw : ∀ w ∈ jWl, w.before _ s = true := fun w h => hts w (List.mem_cons_of_mem _ h)
  have hown : s.vm.findClass RX0 = some m.cls := findClass_of_methodNamed Bd.named
  have hlocks := Bd.notSynchronized
  obtain ⟨Q, hQ⟩ : ∃ Q, Q = MQ below (va_Qv (S := Int32 × Nat × Nat × jT) (fun u => 0 ≤ u.1.toInt ∧ u.1.toInt ≤ u.2.2.1 ∧ n_pa ≤ u.2.2.1 ∧ u.2.2.1 ≤ 1048576 ∧ jPw u.2.2.1) (fun u t => jRa (dC, dI) B base G0 u.2.2.2 EX0_appendI H0 ((u.2.2.1 - n_pa) / 16) (2 * (u.2.2.1 - n_pa)) [(r0, 2, 1, .int u.1), (r0, 2, 0, .ref u.2.1)] t.heap ∧ u.2.2.2 u.2.1 = some (196, u.2.2.1) ∧ (jNk [0, 1, 2, 3, 4, 5, 6, 7, 8, 9, 10, 11, 12, 13, 14, 15, 16, 17, 175]) G0 u.2.2.2 ∧ jOw (dC, dI) G0 2 r0 H0 t.heap) (jA base)) ([.ref r0, .ref r1] : List Value).toArray s (LC - H0.size) (LS - jTot H0) (jA base) := ⟨_, rfl⟩
  rw [← hQ]
  have hl := lv_entry ([.ref r0, .ref r1]) (n := 3) (Nat.le_of_ble_eq_true rfl)
  rw [lg_entry_eq]
  generalize (lg_sl ([.ref r0, .ref r1]) ++ List.replicate (3 - (lg_sl ([.ref r0, .ref r1])).length) Slot.unset).toArray = ls at hl ⊢
  have hl : lv_has ls 3 [(0, .ref r0), (1, .ref r1)] := hl
  generalize hR : (headSpec (jw yX0_append cX0_append 3 none) ({ frames := 3, cells := LC - H0.size, slots := LS - jTot H0, locals := 83 })).room = R
  subst hH0
  have hh : jSt (dC, dI) B base G0 G0 EX0_appendI s.heap 0 0 [(r0, 2, 1, .int pc), (r0, 2, 0, .ref pa)] [] [] s.heap [] := jSt.start hX hP0 jMc.nil jIs.nil
  clear hX hP0
  have hk0 : (0 : Int32).toInt = 0 := by decide
  have hk1 : (1 : Int32).toInt = 1 := by decide
  have hly_2_0 := htw (u_lay RX0 TX0 0) (jWc_wsX00 _ (u_in_lay (by decide)))
  have hly_17_0 := hly_2_0
  have hly_2_1 := htw (u_lay RX0 TX0 1) (jWc_wsX00 _ (u_in_lay (by decide)))
  have hly_17_1 := hly_2_1
  have hlk_19 := (htw (.fieldLink RX0 19 "ProofServer$Bytes" "count" "I") (jWr_16 _ (List.mem_of_getElem? (i := 3) rfl)))
  have hlk_13 := (htw (.fieldLink RX0 13 "ProofServer$Bytes" "row" "[B") (jWr_3 _ (List.mem_of_getElem? (i := 10) rfl)))
  have hbs : base ≤ s.heap.size := Nat.le_of_lt (Nat.lt_of_le_of_lt (hh.ab hg_r0).1 (hh.ab hg_r0).2)
  have hRc : R.cells = LC - s.heap.size := by rw [← hR]; rfl
  have hRs : R.slots = LS - jTot s.heap := by rw [← hR]; rfl
  have hh_1 := hh.addI (jOw.ie (dC := dC) (dI := dI) (G0 := G0) (k := 2) (r := r0) (H0 := s.heap) (F := [(2, 0), (2, 1)]) (C := RX0) (T := TX0) (N := 2) rfl (by decide) hh.2.2.2.2.1 (jOw.rf))
  clear hh
  refine lv_iconst (v := 0) hx hb dX0_append_0 (by decide) ?_
  refine lv_istore_n (lv' := [(2, .int 0), (0, .ref r0), (1, .ref r1)]) hx hb dX0_append_1 rfl hl (by decide) rfl (fun ls hl => ?_)
  have L2 : ∀ (N : Nat) (Gx_2 : jT) (zcx_2 : Nat) (zsx_2 : Nat) (v2_2 : Int32) (wc_2 : Int32) (wr_2 : Nat) (m_wr_2 : Nat) (H_2 : Heap) (locs_2 : List Loc), jSt (dC, dI) B base G0 Gx_2 EX0_appendI s.heap zcx_2 zsx_2 [(r0, 2, 1, .int wc_2), (r0, 2, 0, .ref wr_2)] [] [([(2, 0), (2, 1)], jOw (dC, dI) G0 2 r0 s.heap)] H_2 locs_2 → (jNk [0, 1, 2, 3, 4, 5, 6, 7, 8, 9, 10, 11, 12, 13, 14, 15, 16, 17, 175]) G0 Gx_2 → jLe G0 Gx_2 → Gx_2 wr_2 = some (196, m_wr_2) → (0 ≤ wc_2.toInt ∧ wc_2.toInt ≤ m_wr_2 ∧ n_pa ≤ m_wr_2 ∧ m_wr_2 ≤ 1048576 ∧ jPw m_wr_2 ∧ zcx_2 ≤ (m_wr_2 - n_pa) / 16 ∧ zsx_2 ≤ 2 * (m_wr_2 - n_pa) ∧ 0 ≤ v2_2.toInt ∧ v2_2.toInt ≤ 1048577) → (1048577 - v2_2.toInt : Int) < N → ∀ ls : Array Slot, lv_has ls 3 [(0, .ref r0), (1, .ref r1), (2, .int v2_2)] → W p l e R s m ([.ref r0, .ref r1] : List Value).toArray below meth c H_2 locs_2 zcx_2 zsx_2 Q (F0 m 2 ls []) := by
    intro N
    induction N with
    | zero => intro Gx_2 zcx_2 zsx_2 v2_2 wc_2 wr_2 m_wr_2 H_2 locs_2 hh_2 hN_2 hle_2 hg_wr_2 hi_2 hm; exact absurd hm (by omega)
    | succ N L2 =>
      intro Gx_2 zcx_2 zsx_2 v2_2 wc_2 wr_2 m_wr_2 H_2 locs_2 hh_2 hN_2 hle_2 hg_wr_2 hi_2 hm_2 ls hl
      have hg_3 := hle_2 _ _ hg_r0
      have hg_4 := hle_2 _ _ hg_r1
      obtain ⟨hi_2_0, hi_2_1, hi_2_2, hi_2_3, hi_2_4, hi_2_5, hi_2_6, hi_2_7, hi_2_8⟩ := hi_2
      refine lv_iload_n hx hb dX0_append_2 rfl (lv_at hl 2 rfl) ?_
      refine lv_aload_n hx hb dX0_append_3 rfl (lv_at hl 1 rfl) ?_
      obtain ⟨v_5, hv_5, hh_6⟩ := hh_2.pin (C := RX0) (T := TX0) (N := 2) hB17 rfl (by decide) hg_4 (i := 1) (by decide) rfl
      clear hh_2
      obtain ⟨count_7, rfl, hlocount_7, hhicount_7⟩ := hv_5
      refine j7_read hx hb hown hK (C := RX0) (T := TX0) (N := 2) rfl hly_17_1 hlk_19 (hh_6.at 0 rfl) dX0_append_4 ?_
      refine lv_icmp_ge (tgt := 35) hx hb dX0_append_7 (by decide) (fun c_8 => ?_) (fun c_8 => ?_)
      · skip
        have c_8' : v2_2.toInt ≥ count_7.toInt := jb_ge (rfl) (rfl) c_8
        have hsz_9 := hh_6.2.2.2.2.2.1
        have htt_9 := hh_6.2.2.2.2.2.2.1
        refine W.room (fun hrc_9 hrs_9 => ?_)
        refine W.widen (k := LC - s.heap.size) (n := LS - jTot s.heap) (by omega) (by omega) ?_
        rw [hQ]
        exact W.vret hx hb hr (fun t ht hW => ⟨⟨(wc_2, wr_2, m_wr_2, Gx_2), rfl, by (try dsimp only); exact ⟨(by first | omega | rfl | assumption | fail), (by first | omega | rfl | assumption | fail), (by first | omega | rfl | assumption | fail), (by first | omega | rfl | assumption | fail), (by first | assumption | fail | omega)⟩, ⟨hh_6.ra (by first | (simp only; omega) | omega) (by first | (simp only; omega) | omega) (M1 := [(r0, 2, 1, .int wc_2), (r0, 2, 0, .ref wr_2)]) [1, 2] rfl ht, hg_wr_2, hN_2, by rw [ht]; exact hh_6.iv 0 rfl⟩⟩, by rw [ht]; try exact hh_6.1.1, fun q h9 hq => by rw [ht]; try exact hh_6.1.2.1 q h9 hq⟩) hh_6.1.2.2 dX0_append_35
      · skip
        have c_8' : v2_2.toInt < count_7.toInt := jb_ge_n (rfl) (rfl) c_8
        refine lv_iload_n hx hb dX0_append_10 rfl (lv_at hl 2 rfl) ?_
        refine lv_aload_n hx hb dX0_append_11 rfl (lv_at hl 1 rfl) ?_
        obtain ⟨v_10, hv_10, hh_11⟩ := hh_6.pin (C := RX0) (T := TX0) (N := 2) hB17 rfl (by decide) hg_4 (i := 0) (by decide) rfl
        clear hh_6
        obtain ⟨row_12, nrow_12, rfl, hg_row_12, hn_row_12⟩ := hv_10
        refine j7_read hx hb hown hK (C := RX0) (T := TX0) (N := 2) rfl hly_17_0 hlk_13 (hh_11.at 0 rfl) dX0_append_12 ?_
        refine j7_len hx hb hK hh_11 hB199 0 rfl (by decide) hg_row_12 (by omega) dX0_append_15 (fun z_13 hz_13 => ?_)
        refine lv_icmp_ge (tgt := 35) hx hb dX0_append_16 (by decide) (fun c_14 => ?_) (fun c_14 => ?_)
        · skip
          have c_14' : v2_2.toInt ≥ z_13.toInt := jb_ge (rfl) (rfl) c_14
          have hsz_15 := hh_11.2.2.2.2.2.1
          have htt_15 := hh_11.2.2.2.2.2.2.1
          refine W.room (fun hrc_15 hrs_15 => ?_)
          refine W.widen (k := LC - s.heap.size) (n := LS - jTot s.heap) (by omega) (by omega) ?_
          rw [hQ]
          exact W.vret hx hb hr (fun t ht hW => ⟨⟨(wc_2, wr_2, m_wr_2, Gx_2), rfl, by (try dsimp only); exact ⟨(by first | omega | rfl | assumption | fail), (by first | omega | rfl | assumption | fail), (by first | omega | rfl | assumption | fail), (by first | omega | rfl | assumption | fail), (by first | assumption | fail | omega)⟩, ⟨hh_11.ra (by first | (simp only; omega) | omega) (by first | (simp only; omega) | omega) (M1 := [(r0, 2, 1, .int wc_2), (r0, 2, 0, .ref wr_2)]) [2, 3] rfl ht, hg_wr_2, hN_2, by rw [ht]; exact hh_11.iv 0 rfl⟩⟩, by rw [ht]; try exact hh_11.1.1, fun q h9 hq => by rw [ht]; try exact hh_11.1.2.1 q h9 hq⟩) hh_11.1.2.2 dX0_append_35
        · skip
          have c_14' : v2_2.toInt < z_13.toInt := jb_ge_n (rfl) (rfl) c_14
          refine lv_aload_n hx hb dX0_append_19 rfl (lv_at hl 0 rfl) ?_
          refine lv_aload_n hx hb dX0_append_20 rfl (lv_at hl 1 rfl) ?_
          refine j7_read hx hb hown hK (C := RX0) (T := TX0) (N := 2) rfl hly_17_0 hlk_13 (hh_11.at 0 rfl) dX0_append_21 ?_
          refine lv_iload_n hx hb dX0_append_24 rfl (lv_at hl 2 rfl) ?_
          refine j7_bald hx hb hK hh_11 hB199 0 rfl (by decide) hg_row_12 (x := v2_2.toInt) (rfl) (by omega) dX0_append_25 (fun z_16 (hz_16 : jBf (v2_2.toInt).toNat z_16) => ?_)
          have hsz_17 := hh_11.2.2.2.2.2.1
          have htt_17 := hh_11.2.2.2.2.2.2.1
          refine W.room (fun hrc_17 hrs_17 => ?_)
          refine va_callv (A0 := jA base) (H0 := s.heap) (va_runV (As := [.int z_16]) (rest := []) ⟨hx, hb, hml, hown, hts⟩ (uX0_put l dC dI ca base B hB hAp hB2 hB196 Gx_2 H_2 r0 z_16 wc_2 wr_2 m_wr_2 LC LS) (cwV 1 hts (jgV (jWr_24 _ (List.mem_of_getElem? (i := 22) rfl)) (jWr_16 _ (List.mem_of_getElem? (i := 0) rfl)) (jWr_16 _ (List.mem_of_getElem? (i := 1) rfl)) (jWr_1 _ (List.mem_of_getElem? (i := 14) rfl)) (jWr_16 _ (List.mem_of_getElem? (i := 2) rfl))) rfl rfl rfl (by decide +kernel) ⟨by rw [← hR]; exact Nat.le_of_ble_eq_true rfl, by rw [← hR]; exact Nat.le_of_ble_eq_true rfl⟩) ⟨fun a U g mk q => by obtain ⟨q0, q1, q2, qK, q10, q11, q12, q13⟩ := q; exact ⟨q0, q1, q2, jG.calling g mk a qK, q10, q11, q12, q13⟩, hh_11.recv (C := RX0) (T := TX0) (N := 2) hB2 rfl (by decide) hg_3 hK, fun U hU hW => ⟨rfl, hU, hh_11.2.1, hG.step hW hU hh_11.1, hg_3, hg_wr_2, (hh_11.2.2.1.sub (L1 := [(r0, 2, 1, .int wc_2), (r0, 2, 0, .ref wr_2)]) [2, 3] rfl), (by omega), (by omega), by first | omega | (refine ⟨?_, ?_, ?_, ?_, ?_⟩ <;> (first | omega | rfl | assumption | decide | exact Or.inl rfl | exact Or.inr rfl | (simp only; omega)))⟩⟩ rfl rfl hl.1 rfl (lv_room (Nat.le_of_ble_eq_true rfl)) dX0_append_26 ⟨by rw [hRc]; omega, by rw [hRs]; omega⟩) hh_11.1 (fun q _ h => h) (fun q h => h) (fun u_17 t_17 H_17 locs_17 ht_17 hvm_17 hr_18 hb_17 hz_17 hk_17 hS_17 => ?_)
          obtain ⟨qc_17, qa_17, m_qa_17, G_17⟩ := u_17
          rw [ht_17] at hb_17
          simp only at hb_17
          obtain ⟨⟨hb_171, hb_172, hb_173, hb_174, hb_175, hb_176⟩, hgq_17_0, hN_17, hbO_17⟩ := hb_17
          have hh_17 : jSt (dC, dI) B base G0 G_17 EX0_appendI s.heap (zcx_2 + ((m_qa_17 - m_wr_2) / 16)) (zsx_2 + (2 * (m_qa_17 - m_wr_2))) [(r0, 2, 1, .int qc_17), (r0, 2, 0, .ref qa_17), (r1, 17, 0, .ref row_12), (r1, 17, 1, .int count_7)] [] [] H_17 locs_17 := (hh_11.callG hb_171 hb_172 hb_173 hb_174 hb_175 hS_17 rfl (L1 := [(r1, 17, 0, .ref row_12), (r1, 17, 1, .int count_7)]) [0, 1] rfl rfl (M1 := []) [] rfl rfl (I1 := []) [] rfl rfl).more hb_176
          have hNn_17 : (jNk [0, 1, 2, 3, 4, 5, 6, 7, 8, 9, 10, 11, 12, 13, 14, 15, 16, 17, 175]) G0 G_17 := (hN_2).tr hN_17
          have hg_19 := hb_172 _ _ hg_3
          have hg_20 := hb_172 _ _ hg_4
          have hg_21 := hb_172 _ _ hg_row_12
          have hd_22 := jOw.tr (hh_11.iv 0 rfl) hh_11.2.2.2.2.1 hbO_17
          have hh_23 := hh_17.addI (jOw.ie (dC := dC) (dI := dI) (G0 := G0) (k := 2) (r := r0) (H0 := s.heap) (F := [(2, 0), (2, 1)]) (C := RX0) (T := TX0) (N := 2) rfl (by decide) hh_17.2.2.2.2.1 (hd_22))
          clear hh_17
          try simp only at hr_18
          obtain ⟨hr_18_0, hr_18_1, hr_18_2, hr_18_3, hr_18_4⟩ := hr_18
          obtain ⟨z_24, ez_24⟩ : ∃ y : Int32, y = v2_2 + 1 := ⟨_, rfl⟩
          refine lv_iinc (v := z_24) (lv' := [(2, .int z_24), (0, .ref r0), (1, .ref r1)]) hx hb dX0_append_29 hl (k := 2) rfl (by rw [ez_24]; rfl) (by decide) rfl (fun ls hl => ?_)
          have hz_24 : z_24.toInt = v2_2.toInt + 1 := by rw [ez_24]; exact jb_iadd2 (rfl) (by decide) (by omega)
          refine lv_goto (tgt := 2) hx hb dX0_append_32 (by decide) ?_
          refine W.tight (c2 := (zcx_2 + ((m_qa_17 - m_wr_2) / 16))) (n2 := (zsx_2 + (2 * (m_qa_17 - m_wr_2)))) hh_23.2.2.2.2.2.1 hh_23.2.2.2.2.2.2.1 ?_
          exact L2 G_17 (zcx_2 + ((m_qa_17 - m_wr_2) / 16)) (zsx_2 + (2 * (m_qa_17 - m_wr_2))) z_24 qc_17 qa_17 m_qa_17 _ _ (hh_23.sub (L1 := [(r0, 2, 1, .int qc_17), (r0, 2, 0, .ref qa_17)]) [0, 1] rfl (M1 := []) [] rfl (I1 := [([(2, 0), (2, 1)], jOw (dC, dI) G0 2 r0 s.heap)]) [0] rfl) (hNn_17) ((hle_2).tr hb_172) hgq_17_0 (by first | omega | (refine ⟨?_, ?_, ?_, ?_, ?_, ?_, ?_, ?_, ?_⟩ <;> (first | omega | rfl | assumption | decide | exact Or.inl rfl | exact Or.inr rfl | (simp only; omega)))) (by omega) _ (lv_sub hl [1, 2, 0] rfl)
  refine W.tight (c2 := 0) (n2 := 0) hh_1.2.2.2.2.2.1 hh_1.2.2.2.2.2.2.1 ?_
  exact L2 (1048577 - (0 : Int32).toInt : Int).toNat.succ G0 0 0 0 pc pa n_pa _ _ hh_1 (jNk.rf) (jLe.rf) hg_pa (by first | omega | (refine ⟨?_, ?_, ?_, ?_, ?_, ?_, ?_, ?_, ?_⟩ <;> (first | omega | rfl | assumption | decide | exact Or.inl rfl | exact Or.inr rfl | (simp only; omega)))) (by omega) _ (lv_sub hl [1, 2, 0] rfl)
end
