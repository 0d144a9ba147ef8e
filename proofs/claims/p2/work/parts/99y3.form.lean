theorem dX7_formula_0 : decode cX7_formula 0 = .ok (.aload_n 0, 1) := by decide +kernel
theorem dX7_formula_1 : decode cX7_formula 1 = .ok (.iconst 0, 1) := by decide +kernel
theorem dX7_formula_2 : decode cX7_formula 2 = .ok (.putfield 103, 3) := by decide +kernel
theorem dX7_formula_5 : decode cX7_formula 5 = .ok (.aload_n 0, 1) := by decide +kernel
theorem dX7_formula_6 : decode cX7_formula 6 = .ok (.iconst 2, 1) := by decide +kernel
theorem dX7_formula_7 : decode cX7_formula 7 = .ok (.sipush 256, 3) := by decide +kernel
theorem dX7_formula_10 : decode cX7_formula 10 = .ok (.invokevirtual 106, 3) := by decide +kernel
theorem dX7_formula_13 : decode cX7_formula 13 = .ok (.iconst 0, 1) := by decide +kernel
theorem dX7_formula_14 : decode cX7_formula 14 = .ok (.istore_n 3, 1) := by decide +kernel
theorem dX7_formula_15 : decode cX7_formula 15 = .ok (.iload_n 3, 1) := by decide +kernel
theorem dX7_formula_16 : decode cX7_formula 16 = .ok (.sipush 800, 3) := by decide +kernel
theorem dX7_formula_19 : decode cX7_formula 19 = .ok (.if_icmp .ge 273, 3) := by decide +kernel
theorem dX7_formula_22 : decode cX7_formula 22 = .ok (.aload_n 0, 1) := by decide +kernel
theorem dX7_formula_23 : decode cX7_formula 23 = .ok (.getfield 103, 3) := by decide +kernel
theorem dX7_formula_26 : decode cX7_formula 26 = .ok (.ifCond .le 266, 3) := by decide +kernel
theorem dX7_formula_29 : decode cX7_formula 29 = .ok (.aload_n 0, 1) := by decide +kernel
theorem dX7_formula_30 : decode cX7_formula 30 = .ok (.dup, 1) := by decide +kernel
theorem dX7_formula_31 : decode cX7_formula 31 = .ok (.getfield 103, 3) := by decide +kernel
theorem dX7_formula_34 : decode cX7_formula 34 = .ok (.iconst 1, 1) := by decide +kernel
theorem dX7_formula_35 : decode cX7_formula 35 = .ok (.isub, 1) := by decide +kernel
theorem dX7_formula_36 : decode cX7_formula 36 = .ok (.putfield 103, 3) := by decide +kernel
theorem dX7_formula_39 : decode cX7_formula 39 = .ok (.aload_n 0, 1) := by decide +kernel
theorem dX7_formula_40 : decode cX7_formula 40 = .ok (.getfield 11, 3) := by decide +kernel
theorem dX7_formula_43 : decode cX7_formula 43 = .ok (.aload_n 0, 1) := by decide +kernel
theorem dX7_formula_44 : decode cX7_formula 44 = .ok (.getfield 103, 3) := by decide +kernel
theorem dX7_formula_47 : decode cX7_formula 47 = .ok (.iaload, 1) := by decide +kernel
theorem dX7_formula_48 : decode cX7_formula 48 = .ok (.iconst 3, 1) := by decide +kernel
theorem dX7_formula_49 : decode cX7_formula 49 = .ok (.iand, 1) := by decide +kernel
theorem dX7_formula_50 : decode cX7_formula 50 = .ok (.istore 4, 2) := by decide +kernel
theorem dX7_formula_52 : decode cX7_formula 52 = .ok (.aload_n 0, 1) := by decide +kernel
theorem dX7_formula_53 : decode cX7_formula 53 = .ok (.getfield 11, 3) := by decide +kernel
theorem dX7_formula_56 : decode cX7_formula 56 = .ok (.aload_n 0, 1) := by decide +kernel
theorem dX7_formula_57 : decode cX7_formula 57 = .ok (.getfield 103, 3) := by decide +kernel
theorem dX7_formula_60 : decode cX7_formula 60 = .ok (.iaload, 1) := by decide +kernel
theorem dX7_formula_61 : decode cX7_formula 61 = .ok (.iconst 2, 1) := by decide +kernel
theorem dX7_formula_62 : decode cX7_formula 62 = .ok (.ishr, 1) := by decide +kernel
theorem dX7_formula_63 : decode cX7_formula 63 = .ok (.istore 5, 2) := by decide +kernel
theorem dX7_formula_65 : decode cX7_formula 65 = .ok (.iload 5, 2) := by decide +kernel
theorem dX7_formula_67 : decode cX7_formula 67 = .ok (.sipush 255, 3) := by decide +kernel
theorem dX7_formula_70 : decode cX7_formula 70 = .ok (.iand, 1) := by decide +kernel
theorem dX7_formula_71 : decode cX7_formula 71 = .ok (.istore 6, 2) := by decide +kernel
theorem dX7_formula_73 : decode cX7_formula 73 = .ok (.iload 4, 2) := by decide +kernel
theorem dX7_formula_75 : decode cX7_formula 75 = .ok (.iconst 2, 1) := by decide +kernel
theorem dX7_formula_76 : decode cX7_formula 76 = .ok (.if_icmp .ne 20, 3) := by decide +kernel
theorem dX7_formula_79 : decode cX7_formula 79 = .ok (.iload 6, 2) := by decide +kernel
theorem dX7_formula_81 : decode cX7_formula 81 = .ok (.aload_n 1, 1) := by decide +kernel
theorem dX7_formula_82 : decode cX7_formula 82 = .ok (.arraylength, 1) := by decide +kernel
theorem dX7_formula_83 : decode cX7_formula 83 = .ok (.if_icmp .ge 13, 3) := by decide +kernel
theorem dX7_formula_86 : decode cX7_formula 86 = .ok (.aload_n 1, 1) := by decide +kernel
theorem dX7_formula_87 : decode cX7_formula 87 = .ok (.iload 6, 2) := by decide +kernel
theorem dX7_formula_89 : decode cX7_formula 89 = .ok (.iaload, 1) := by decide +kernel
theorem dX7_formula_90 : decode cX7_formula 90 = .ok (.bipush 15, 2) := by decide +kernel
theorem dX7_formula_92 : decode cX7_formula 92 = .ok (.iand, 1) := by decide +kernel
theorem dX7_formula_93 : decode cX7_formula 93 = .ok (.goto 4, 3) := by decide +kernel
theorem dX7_formula_96 : decode cX7_formula 96 = .ok (.iconst 0, 1) := by decide +kernel
theorem dX7_formula_97 : decode cX7_formula 97 = .ok (.istore 7, 2) := by decide +kernel
theorem dX7_formula_99 : decode cX7_formula 99 = .ok (.iload 7, 2) := by decide +kernel
theorem dX7_formula_101 : decode cX7_formula 101 = .ok (.iconst 5, 1) := by decide +kernel
theorem dX7_formula_102 : decode cX7_formula 102 = .ok (.if_icmp .eq 10, 3) := by decide +kernel
theorem dX7_formula_105 : decode cX7_formula 105 = .ok (.iload 7, 2) := by decide +kernel
theorem dX7_formula_107 : decode cX7_formula 107 = .ok (.bipush 6, 2) := by decide +kernel
theorem dX7_formula_109 : decode cX7_formula 109 = .ok (.if_icmp .ne 7, 3) := by decide +kernel
theorem dX7_formula_112 : decode cX7_formula 112 = .ok (.iconst 1, 1) := by decide +kernel
theorem dX7_formula_113 : decode cX7_formula 113 = .ok (.goto 4, 3) := by decide +kernel
theorem dX7_formula_116 : decode cX7_formula 116 = .ok (.iconst 0, 1) := by decide +kernel
theorem dX7_formula_117 : decode cX7_formula 117 = .ok (.istore 8, 2) := by decide +kernel
theorem dX7_formula_119 : decode cX7_formula 119 = .ok (.iload 4, 2) := by decide +kernel
theorem dX7_formula_121 : decode cX7_formula 121 = .ok (.ifCond .ne 15, 3) := by decide +kernel
theorem dX7_formula_124 : decode cX7_formula 124 = .ok (.aload_n 2, 1) := by decide +kernel
theorem dX7_formula_125 : decode cX7_formula 125 = .ok (.iload 5, 2) := by decide +kernel
theorem dX7_formula_127 : decode cX7_formula 127 = .ok (.invokestatic 110, 3) := by decide +kernel
theorem dX7_formula_130 : decode cX7_formula 130 = .ok (.invokevirtual 33, 3) := by decide +kernel
theorem dX7_formula_133 : decode cX7_formula 133 = .ok (.goto 153, 3) := by decide +kernel
theorem dX7_formula_136 : decode cX7_formula 136 = .ok (.iload 4, 2) := by decide +kernel
theorem dX7_formula_138 : decode cX7_formula 138 = .ok (.iconst 1, 1) := by decide +kernel
theorem dX7_formula_139 : decode cX7_formula 139 = .ok (.if_icmp .ne 24, 3) := by decide +kernel
theorem dX7_formula_142 : decode cX7_formula 142 = .ok (.aload_n 0, 1) := by decide +kernel
theorem dX7_formula_143 : decode cX7_formula 143 = .ok (.getfield 21, 3) := by decide +kernel
theorem dX7_formula_146 : decode cX7_formula 146 = .ok (.iload 5, 2) := by decide +kernel
theorem dX7_formula_148 : decode cX7_formula 148 = .ok (.ldc 114, 2) := by decide +kernel
theorem dX7_formula_150 : decode cX7_formula 150 = .ok (.iand, 1) := by decide +kernel
theorem dX7_formula_151 : decode cX7_formula 151 = .ok (.iload 5, 2) := by decide +kernel
theorem dX7_formula_153 : decode cX7_formula 153 = .ok (.bipush 17, 2) := by decide +kernel
theorem dX7_formula_155 : decode cX7_formula 155 = .ok (.ishr, 1) := by decide +kernel
theorem dX7_formula_156 : decode cX7_formula 156 = .ok (.aload_n 2, 1) := by decide +kernel
theorem dX7_formula_157 : decode cX7_formula 157 = .ok (.invokevirtual 41, 3) := by decide +kernel
theorem dX7_formula_160 : decode cX7_formula 160 = .ok (.goto 126, 3) := by decide +kernel
theorem dX7_formula_163 : decode cX7_formula 163 = .ok (.iload 5, 2) := by decide +kernel
theorem dX7_formula_165 : decode cX7_formula 165 = .ok (.sipush 512, 3) := by decide +kernel
theorem dX7_formula_168 : decode cX7_formula 168 = .ok (.iand, 1) := by decide +kernel
theorem dX7_formula_169 : decode cX7_formula 169 = .ok (.ifCond .ne 17, 3) := by decide +kernel
theorem dX7_formula_172 : decode cX7_formula 172 = .ok (.iload 8, 2) := by decide +kernel
theorem dX7_formula_174 : decode cX7_formula 174 = .ok (.ifCond .eq 44, 3) := by decide +kernel
theorem dX7_formula_177 : decode cX7_formula 177 = .ok (.iload 5, 2) := by decide +kernel
theorem dX7_formula_179 : decode cX7_formula 179 = .ok (.sipush 256, 3) := by decide +kernel
theorem dX7_formula_182 : decode cX7_formula 182 = .ok (.iand, 1) := by decide +kernel
theorem dX7_formula_183 : decode cX7_formula 183 = .ok (.ifCond .ne 35, 3) := by decide +kernel
theorem dX7_formula_186 : decode cX7_formula 186 = .ok (.aload_n 0, 1) := by decide +kernel
theorem dX7_formula_187 : decode cX7_formula 187 = .ok (.iconst 0, 1) := by decide +kernel
theorem dX7_formula_188 : decode cX7_formula 188 = .ok (.bipush 16, 2) := by decide +kernel
theorem dX7_formula_190 : decode cX7_formula 190 = .ok (.invokevirtual 106, 3) := by decide +kernel
theorem dX7_formula_193 : decode cX7_formula 193 = .ok (.aload_n 0, 1) := by decide +kernel
theorem dX7_formula_194 : decode cX7_formula 194 = .ok (.iconst 2, 1) := by decide +kernel
theorem dX7_formula_195 : decode cX7_formula 195 = .ok (.iload 5, 2) := by decide +kernel
theorem dX7_formula_197 : decode cX7_formula 197 = .ok (.sipush (-513), 3) := by decide +kernel
theorem dX7_formula_200 : decode cX7_formula 200 = .ok (.iand, 1) := by decide +kernel
theorem dX7_formula_201 : decode cX7_formula 201 = .ok (.sipush 256, 3) := by decide +kernel
theorem dX7_formula_204 : decode cX7_formula 204 = .ok (.ior, 1) := by decide +kernel
theorem dX7_formula_205 : decode cX7_formula 205 = .ok (.invokevirtual 106, 3) := by decide +kernel
theorem dX7_formula_208 : decode cX7_formula 208 = .ok (.aload_n 0, 1) := by decide +kernel
theorem dX7_formula_209 : decode cX7_formula 209 = .ok (.iconst 0, 1) := by decide +kernel
theorem dX7_formula_210 : decode cX7_formula 210 = .ok (.bipush 17, 2) := by decide +kernel
theorem dX7_formula_212 : decode cX7_formula 212 = .ok (.invokevirtual 106, 3) := by decide +kernel
theorem dX7_formula_215 : decode cX7_formula 215 = .ok (.goto 71, 3) := by decide +kernel
theorem dX7_formula_218 : decode cX7_formula 218 = .ok (.iload 8, 2) := by decide +kernel
theorem dX7_formula_220 : decode cX7_formula 220 = .ok (.ifCond .eq 18, 3) := by decide +kernel
theorem dX7_formula_223 : decode cX7_formula 223 = .ok (.aload_n 0, 1) := by decide +kernel
theorem dX7_formula_224 : decode cX7_formula 224 = .ok (.aload_n 1, 1) := by decide +kernel
theorem dX7_formula_225 : decode cX7_formula 225 = .ok (.iload 6, 2) := by decide +kernel
theorem dX7_formula_227 : decode cX7_formula 227 = .ok (.iload 5, 2) := by decide +kernel
theorem dX7_formula_229 : decode cX7_formula 229 = .ok (.bipush 10, 2) := by decide +kernel
theorem dX7_formula_231 : decode cX7_formula 231 = .ok (.ishr, 1) := by decide +kernel
theorem dX7_formula_232 : decode cX7_formula 232 = .ok (.invokevirtual 115, 3) := by decide +kernel
theorem dX7_formula_235 : decode cX7_formula 235 = .ok (.goto 51, 3) := by decide +kernel
theorem dX7_formula_238 : decode cX7_formula 238 = .ok (.iload 7, 2) := by decide +kernel
theorem dX7_formula_240 : decode cX7_formula 240 = .ok (.iconst 1, 1) := by decide +kernel
theorem dX7_formula_241 : decode cX7_formula 241 = .ok (.if_icmp .lt 24, 3) := by decide +kernel
theorem dX7_formula_244 : decode cX7_formula 244 = .ok (.iload 7, 2) := by decide +kernel
theorem dX7_formula_246 : decode cX7_formula 246 = .ok (.iconst 4, 1) := by decide +kernel
theorem dX7_formula_247 : decode cX7_formula 247 = .ok (.if_icmp .gt 18, 3) := by decide +kernel
theorem dX7_formula_250 : decode cX7_formula 250 = .ok (.aload_n 0, 1) := by decide +kernel
theorem dX7_formula_251 : decode cX7_formula 251 = .ok (.aload_n 1, 1) := by decide +kernel
theorem dX7_formula_252 : decode cX7_formula 252 = .ok (.iload 6, 2) := by decide +kernel
theorem dX7_formula_254 : decode cX7_formula 254 = .ok (.iload 5, 2) := by decide +kernel
theorem dX7_formula_256 : decode cX7_formula 256 = .ok (.iload 6, 2) := by decide +kernel
theorem dX7_formula_258 : decode cX7_formula 258 = .ok (.isub, 1) := by decide +kernel
theorem dX7_formula_259 : decode cX7_formula 259 = .ok (.invokevirtual 119, 3) := by decide +kernel
theorem dX7_formula_262 : decode cX7_formula 262 = .ok (.goto 24, 3) := by decide +kernel
theorem dX7_formula_265 : decode cX7_formula 265 = .ok (.iload 7, 2) := by decide +kernel
theorem dX7_formula_267 : decode cX7_formula 267 = .ok (.ifCond .ne 12, 3) := by decide +kernel
theorem dX7_formula_270 : decode cX7_formula 270 = .ok (.aload_n 0, 1) := by decide +kernel
theorem dX7_formula_271 : decode cX7_formula 271 = .ok (.iconst 0, 1) := by decide +kernel
theorem dX7_formula_272 : decode cX7_formula 272 = .ok (.iconst 0, 1) := by decide +kernel
theorem dX7_formula_273 : decode cX7_formula 273 = .ok (.invokevirtual 106, 3) := by decide +kernel
theorem dX7_formula_276 : decode cX7_formula 276 = .ok (.goto 10, 3) := by decide +kernel
theorem dX7_formula_279 : decode cX7_formula 279 = .ok (.aload_n 0, 1) := by decide +kernel
theorem dX7_formula_280 : decode cX7_formula 280 = .ok (.aload_n 1, 1) := by decide +kernel
theorem dX7_formula_281 : decode cX7_formula 281 = .ok (.iload 6, 2) := by decide +kernel
theorem dX7_formula_283 : decode cX7_formula 283 = .ok (.invokevirtual 122, 3) := by decide +kernel
theorem dX7_formula_286 : decode cX7_formula 286 = .ok (.iinc 3 1, 3) := by decide +kernel
theorem dX7_formula_289 : decode cX7_formula 289 = .ok (.goto (-274), 3) := by decide +kernel
theorem dX7_formula_292 : decode cX7_formula 292 = .ok (.return_, 1) := by decide +kernel
def EX7_formula : List (Nat × Nat) := [(2, 0), (2, 1), (9, 2), (196, 0), (286, 0), (287, 0), (288, 0)]
set_option maxHeartbeats 4000000 in
set_option maxRecDepth 20000 in
theorem uX7_formula (l : Launch) (dC : Nat → ClassId) (dI : Nat → Nat → Nat) (ca : Nat → ClassId) (base : Nat) (B : jF) (hB : jBok B) (hAp : jAp (dC, dI)) (hB2 : ∀ n G a H, B 2 n G a H ↔ jOb (dC, dI) 2 2 (F2 n G) a H) (hB8 : ∀ n G a H, B 8 n G a H ↔ jOb (dC, dI) 8 4 (F8 n G) a H) (hB9 : ∀ n G a H, B 9 n G a H ↔ jOb (dC, dI) 9 5 (F9b n G) a H) (hB102 : ∀ n G a H, B 102 n G a H ↔ jAl (dC, dI) (ca 2) n a H) (hB132 : ∀ n G a H, B 132 n G a H ↔ jAr (dC, dI) (ca 1) (fun j z => 0 ≤ z.toInt ∧ z.toInt ≤ 10) n a H) (hB180 : ∀ n G a H, B 180 n G a H ↔ jAr (dC, dI) (ca 1) (fun j z => 0 ≤ z.toInt) n a H) (hB196 : ∀ n G a H, B 196 n G a H ↔ jAr (dC, dI) (ca 0) (fun j z => jBf j z) n a H) (hB286 : ∀ n G a H, B 286 n G a H ↔ jAr (dC, dI) (ca 1) (fun j z => 0 ≤ z.toInt) n a H) (hB287 : ∀ n G a H, B 287 n G a H ↔ jAr (dC, dI) (ca 1) (fun j z => 0 ≤ z.toInt ∧ z.toInt ≤ 65535) n a H) (hB288 : ∀ n G a H, B 288 n G a H ↔ jAr (dC, dI) (ca 1) (fun j z => 0 ≤ z.toInt ∧ z.toInt ≤ 160) n a H) (G0 : jT) (H0 : Heap) (r0 : Nat) (r1 : Nat) (r2 : Nat) (n1 : Nat) (pc : Int32) (pa : Nat) (n_pa : Nat) (LC LS : Nat) : Met l yX7_formula (jw yX7_formula cX7_formula 9 none) ({ frames := 5, cells := LC - H0.size, slots := LS - jTot H0, locals := 166 }) (va_Pc [.ref r0, .ref r1, .ref r2] (fun U => U.heap = H0 ∧ jX B base G0 [] H0 ∧ jG dC dI ca base U ∧ G0 r2 = some (2, 0) ∧ G0 r1 = some (180, n1) ∧ G0 r0 = some (9, 0) ∧ G0 pa = some (196, n_pa) ∧ jP (dC, dI) G0 H0 [(r2, 2, 1, .int pc), (r2, 2, 0, .ref pa)] ∧ H0.size + (1048576 - n_pa) / 16 + 1 ≤ LC ∧ jTot H0 + 2 * (1048576 - n_pa) ≤ LS ∧ 0 ≤ pc.toInt ∧ pc.toInt ≤ n_pa ∧ 16 ≤ n_pa ∧ n_pa ≤ 1048576 ∧ jPw n_pa ∧ n1 ≤ 100000)) (va_Qv (S := Int32 × Nat × Nat × jT) (fun u => 0 ≤ u.1.toInt ∧ u.1.toInt ≤ u.2.2.1 ∧ n_pa ≤ u.2.2.1 ∧ u.2.2.1 ≤ 1048576 ∧ jPw u.2.2.1) (fun u t => jRa (dC, dI) B base G0 u.2.2.2 EX7_formula H0 ((u.2.2.1 - n_pa) / 16) (2 * (u.2.2.1 - n_pa)) [(r2, 2, 1, .int u.1), (r2, 2, 0, .ref u.2.1)] t.heap ∧ u.2.2.2 u.2.1 = some (196, u.2.2.1) ∧ (jNk [0, 1, 2, 3, 4, 5, 6, 7, 8, 9, 10, 11, 12, 13, 14, 15, 16]) G0 u.2.2.2 ∧ jOw (dC, dI) G0 2 r2 H0 t.heap) (jA base)) (LC - H0.size) (LS - jTot H0) (jA base) := by
  refine Met.ofW (cc := cX7_formula) (maxL := 9) (ret := none) (by decide) rfl ?_
  intro p e s m args below meth c s₁ Bd hml hv
  obtain ⟨rfl, hH0, hX, hG, hg_r2, hg_r1, hg_r0, hg_pa, hP0, hLC0, hLS0, hp0, hp1, hp2, hp3, hp4, hp5⟩ := hv
  have hK := hG.1
  have hx := Bd.exec
  have hb := Bd.bytes
  have hr := Bd.returns
  have hts := atoms_spec (ws := (jw yX7_formula cX7_formula 9 none)) Bd.pre
  have htw : ∀ w ∈ jWl, w.before _ s = true := fun w h => hts w (List.mem_cons_of_mem _ h)
  have hown : s.vm.findClass RX7 = some m.cls := findClass_of_methodNamed Bd.named
  have hlocks := Bd.notSynchronized
  obtain ⟨Q, hQ⟩ : ∃ Q, Q = MQ below (va_Qv (S := Int32 × Nat × Nat × jT) (fun u => 0 ≤ u.1.toInt ∧ u.1.toInt ≤ u.2.2.1 ∧ n_pa ≤ u.2.2.1 ∧ u.2.2.1 ≤ 1048576 ∧ jPw u.2.2.1) (fun u t => jRa (dC, dI) B base G0 u.2.2.2 EX7_formula H0 ((u.2.2.1 - n_pa) / 16) (2 * (u.2.2.1 - n_pa)) [(r2, 2, 1, .int u.1), (r2, 2, 0, .ref u.2.1)] t.heap ∧ u.2.2.2 u.2.1 = some (196, u.2.2.1) ∧ (jNk [0, 1, 2, 3, 4, 5, 6, 7, 8, 9, 10, 11, 12, 13, 14, 15, 16]) G0 u.2.2.2 ∧ jOw (dC, dI) G0 2 r2 H0 t.heap) (jA base)) ([.ref r0, .ref r1, .ref r2] : List Value).toArray s (LC - H0.size) (LS - jTot H0) (jA base) := ⟨_, rfl⟩
  rw [← hQ]
  have hl := lv_entry ([.ref r0, .ref r1, .ref r2]) (n := 9) (Nat.le_of_ble_eq_true rfl)
  rw [lg_entry_eq]
  generalize (lg_sl ([.ref r0, .ref r1, .ref r2]) ++ List.replicate (9 - (lg_sl ([.ref r0, .ref r1, .ref r2])).length) Slot.unset).toArray = ls at hl ⊢
  have hl : lv_has ls 9 [(0, .ref r0), (1, .ref r1), (2, .ref r2)] := hl
  generalize hR : (headSpec (jw yX7_formula cX7_formula 9 none) ({ frames := 5, cells := LC - H0.size, slots := LS - jTot H0, locals := 166 })).room = R
  subst hH0
  have hh : jSt (dC, dI) B base G0 G0 EX7_formula s.heap 0 0 [(r2, 2, 1, .int pc), (r2, 2, 0, .ref pa)] [] [] s.heap [] := jSt.start hX hP0 jMc.nil jIs.nil
  clear hX hP0
  have hkm513 : ((-513) : Int32).toInt = (-513) := by decide
  have hk0 : (0 : Int32).toInt = 0 := by decide
  have hk1 : (1 : Int32).toInt = 1 := by decide
  have hk2 : (2 : Int32).toInt = 2 := by decide
  have hk3 : (3 : Int32).toInt = 3 := by decide
  have hk4 : (4 : Int32).toInt = 4 := by decide
  have hk5 : (5 : Int32).toInt = 5 := by decide
  have hk6 : (6 : Int32).toInt = 6 := by decide
  have hk10 : (10 : Int32).toInt = 10 := by decide
  have hk15 : (15 : Int32).toInt = 15 := by decide
  have hk16 : (16 : Int32).toInt = 16 := by decide
  have hk17 : (17 : Int32).toInt = 17 := by decide
  have hk255 : (255 : Int32).toInt = 255 := by decide
  have hk256 : (256 : Int32).toInt = 256 := by decide
  have hk512 : (512 : Int32).toInt = 512 := by decide
  have hk800 : (800 : Int32).toInt = 800 := by decide
  have hk131071 : (131071 : Int32).toInt = 131071 := by decide
  have hly_9_0 := htw (u_lay RX7 TX7 0) (jWc_wsX70 _ (u_in_lay (by decide)))
  have hly_9_1 := htw (u_lay RX7 TX7 1) (jWc_wsX70 _ (u_in_lay (by decide)))
  have hly_9_2 := htw (u_lay RX7 TX7 2) (jWc_wsX70 _ (u_in_lay (by decide)))
  have hlk_103 := (htw (.fieldLink RX7 103 "ProofServer$Printer" "height" "I") (jWr_31 _ (List.mem_of_getElem? (i := 7) rfl)))
  have hlk_11 := (htw (.fieldLink RX7 11 "ProofServer$Printer" "stack" "[I") (jWr_9 _ (List.mem_of_getElem? (i := 7) rfl)))
  have hlk_21 := (htw (.fieldLink RX7 21 "ProofServer$Printer" "names" "LProofServer$Names;") (jWr_9 _ (List.mem_of_getElem? (i := 10) rfl)))
  have hcs_114 := htw (.constant RX7 114 131071) (jWr_31 _ (List.mem_of_getElem? (i := 8) rfl))
  have hbs : base ≤ s.heap.size := Nat.le_of_lt (Nat.lt_of_le_of_lt (hh.ab hg_r0).1 (hh.ab hg_r0).2)
  have hbs : base ≤ s.heap.size := Nat.le_of_lt (Nat.lt_of_le_of_lt (hh.ab hg_r0).1 (hh.ab hg_r0).2)
  have hRc : R.cells = LC - s.heap.size := by rw [← hR]; rfl
  have hRs : R.slots = LS - jTot s.heap := by rw [← hR]; rfl
  have hh_1 := hh.addI (jOw.ie (dC := dC) (dI := dI) (G0 := G0) (k := 2) (r := r2) (H0 := s.heap) (F := [(2, 0), (2, 1)]) (C := RX0) (T := TX0) (N := 2) rfl (by decide) hh.2.2.2.2.1 (jOw.rf))
  clear hh
  refine lv_aload_n hx hb dX7_formula_0 rfl (lv_at hl 0 rfl) ?_
  refine lv_iconst (v := 0) hx hb dX7_formula_1 (by decide) ?_
  refine j7_put hx hb hown hK hh_1 hB hAp hB9 (C := RX7) (T := TX7) (N := 5) rfl (by decide) hg_r0 (i := 2) (by decide) hly_9_2 rfl hlk_103 rfl (ty := .int) (v := .int 0) (by decide +kernel) rfl rfl (⟨_, rfl, by omega, by omega⟩) rfl (L1 := [(r2, 2, 1, .int pc), (r2, 2, 0, .ref pa)]) [0, 1] rfl rfl rfl dX7_formula_2 (fun H_2 locs_2 hh_2 => ?_)
  clear hh_1
  refine lv_aload_n hx hb dX7_formula_5 rfl (lv_at hl 0 rfl) ?_
  refine lv_iconst (v := 2) hx hb dX7_formula_6 (by decide) ?_
  refine lv_sipush (v := 256) hx hb dX7_formula_7 (by decide) ?_
  have hsz_3 := hh_2.2.2.2.2.2.1
  have htt_3 := hh_2.2.2.2.2.2.2.1
  refine W.room (fun hrc_3 hrs_3 => ?_)
  refine va_callv (A0 := jA base) (H0 := s.heap) (va_runV (As := [.int 2, .int 256]) (rest := []) ⟨hx, hb, hml, hown, hts⟩ (uX7_pushB l dC dI ca base B hB hAp hB9 hB286 G0 H_2 r0 2 256) (cwV 2 hts (jgV (jWr_31 _ (List.mem_of_getElem? (i := 9) rfl)) (jWr_31 _ (List.mem_of_getElem? (i := 10) rfl)) (jWr_31 _ (List.mem_of_getElem? (i := 11) rfl)) (jWr_2 _ (List.mem_of_getElem? (i := 8) rfl)) (jWr_31 _ (List.mem_of_getElem? (i := 12) rfl))) rfl rfl rfl (by decide +kernel) ⟨by rw [← hR]; exact Nat.le_of_ble_eq_true rfl, by rw [← hR]; exact Nat.le_of_ble_eq_true rfl⟩) ⟨fun a U g mk q => by obtain ⟨q0, q1, q2, qK, q10, q11, q12⟩ := q; exact ⟨q0, q1, q2, jG.calling g mk a qK, q10, q11, q12⟩, hh_2.recv (C := RX7) (T := TX7) (N := 5) hB9 rfl (by decide) hg_r0 hK, fun U hU hW => ⟨rfl, hU, hh_2.2.1, hG.step hW hU hh_2.1, hg_r0, jP.nil, ⟨(by first | omega | rfl | assumption | fail), (by first | omega | rfl | assumption | fail), (by first | omega | rfl | assumption | fail), (by first | omega | rfl | assumption | fail)⟩⟩⟩ rfl rfl hl.1 rfl (lv_room (Nat.le_of_ble_eq_true rfl)) dX7_formula_10 ⟨by rw [hRc]; show _ + 0 ≤ _; omega, by rw [hRs]; show _ + 0 ≤ _; omega⟩) hh_2.1 (fun q _ h => h) (fun q h => h) (fun u_3 t_3 H_3 locs_3 ht_3 hvm_3 hr_4 hb_3 hz_3 hk_3 hS_3 => ?_)
  rw [ht_3] at hb_3
  obtain ⟨hb_31, hb_32, hb_33, hb_34, hb_35⟩ := hb_3
  have hh_3 : jSt (dC, dI) B base G0 G0 EX7_formula s.heap 0 0 [(r2, 2, 1, .int pc), (r2, 2, 0, .ref pa)] [] [([(2, 0), (2, 1)], jOw (dC, dI) G0 2 r2 s.heap)] H_3 locs_3 := ((hh_2.call hb_31 hb_32 hb_33 hb_34 hS_3 rfl (L1 := [(r2, 2, 1, .int pc), (r2, 2, 0, .ref pa)]) [1, 2] rfl rfl (M1 := []) [] rfl rfl (I1 := [([(2, 0), (2, 1)], jOw (dC, dI) G0 2 r2 s.heap)]) [0] rfl rfl).more hb_35)
  clear hh_2 ht_3 hvm_3 hz_3 hk_3 hS_3 hb_31 hb_32 hb_33 hb_34 hb_35
  refine lv_iconst (v := 0) hx hb dX7_formula_13 (by decide) ?_
  refine lv_istore_n (lv' := [(3, .int 0), (0, .ref r0), (1, .ref r1), (2, .ref r2)]) hx hb dX7_formula_14 rfl hl (by decide) rfl (fun ls hl => ?_)
  have L15 : ∀ (N : Nat) (Gx_5 : jT) (zcx_5 : Nat) (zsx_5 : Nat) (v3_5 : Int32) (wc_5 : Int32) (wr_5 : Nat) (m_wr_5 : Nat) (H_5 : Heap) (locs_5 : List Loc), jSt (dC, dI) B base G0 Gx_5 EX7_formula s.heap zcx_5 zsx_5 [(r2, 2, 1, .int wc_5), (r2, 2, 0, .ref wr_5)] [] [([(2, 0), (2, 1)], jOw (dC, dI) G0 2 r2 s.heap)] H_5 locs_5 → (jNk [0, 1, 2, 3, 4, 5, 6, 7, 8, 9, 10, 11, 12, 13, 14, 15, 16]) G0 Gx_5 → jLe G0 Gx_5 → Gx_5 wr_5 = some (196, m_wr_5) → (0 ≤ wc_5.toInt ∧ wc_5.toInt ≤ m_wr_5 ∧ n_pa ≤ m_wr_5 ∧ m_wr_5 ≤ 1048576 ∧ jPw m_wr_5 ∧ zcx_5 ≤ (m_wr_5 - n_pa) / 16 ∧ zsx_5 ≤ 2 * (m_wr_5 - n_pa) ∧ 0 ≤ v3_5.toInt ∧ v3_5.toInt ≤ 800) → (800 - v3_5.toInt : Int) < N → ∀ ls : Array Slot, lv_has ls 9 [(0, .ref r0), (1, .ref r1), (2, .ref r2), (3, .int v3_5)] → W p l e R s m ([.ref r0, .ref r1, .ref r2] : List Value).toArray below meth c H_5 locs_5 zcx_5 zsx_5 Q (F0 m 15 ls []) := by
    intro N
    induction N with
    | zero => intro Gx_5 zcx_5 zsx_5 v3_5 wc_5 wr_5 m_wr_5 H_5 locs_5 hh_5 hN_5 hle_5 hg_wr_5 hi_5 hm; exact absurd hm (by omega)
    | succ N L15 =>
      intro Gx_5 zcx_5 zsx_5 v3_5 wc_5 wr_5 m_wr_5 H_5 locs_5 hh_5 hN_5 hle_5 hg_wr_5 hi_5 hm_5 ls hl
      have hg_6 := hle_5 _ _ hg_r0
      have hg_7 := hle_5 _ _ hg_r1
      have hg_8 := hle_5 _ _ hg_r2
      obtain ⟨hi_5_0, hi_5_1, hi_5_2, hi_5_3, hi_5_4, hi_5_5, hi_5_6, hi_5_7, hi_5_8⟩ := hi_5
      refine lv_iload_n hx hb dX7_formula_15 rfl (lv_at hl 3 rfl) ?_
      refine lv_sipush (v := 800) hx hb dX7_formula_16 (by decide) ?_
      refine lv_icmp_ge (tgt := 292) hx hb dX7_formula_19 (by decide) (fun c_9 => ?_) (fun c_9 => ?_)
      · skip
        have c_9' : v3_5.toInt ≥ 800 := jb_ge (rfl) ((by decide)) c_9
        have hsz_10 := hh_5.2.2.2.2.2.1
        have htt_10 := hh_5.2.2.2.2.2.2.1
        refine W.room (fun hrc_10 hrs_10 => ?_)
        refine W.widen (k := LC - s.heap.size) (n := LS - jTot s.heap) (by omega) (by omega) ?_
        rw [hQ]
        exact W.vret hx hb hr (fun t ht hW => ⟨⟨(wc_5, wr_5, m_wr_5, Gx_5), rfl, by (try dsimp only); exact ⟨(by first | omega | rfl | assumption | fail), (by first | omega | rfl | assumption | fail), (by first | omega | rfl | assumption | fail), (by first | omega | rfl | assumption | fail), (by first | assumption | fail | omega)⟩, ⟨hh_5.ra (by first | omega | (simp only; omega)) (by first | omega | (simp only; omega)) (M1 := [(r2, 2, 1, .int wc_5), (r2, 2, 0, .ref wr_5)]) [0, 1] rfl ht, hg_wr_5, hN_5, by rw [ht]; exact hh_5.iv 0 rfl⟩⟩, by rw [ht]; try exact hh_5.1.1, fun q h9 hq => by rw [ht]; try exact hh_5.1.2.1 q h9 hq⟩) hh_5.1.2.2 dX7_formula_292
      · skip
        have c_9' : v3_5.toInt < 800 := jb_ge_n (rfl) ((by decide)) c_9
        refine lv_aload_n hx hb dX7_formula_22 rfl (lv_at hl 0 rfl) ?_
        obtain ⟨v_11, hv_11, hh_12⟩ := hh_5.pin (C := RX7) (T := TX7) (N := 5) hB9 rfl (by decide) hg_6 (i := 2) (by decide) rfl
        clear hh_5
        obtain ⟨height_13, rfl, hloheight_13, hhiheight_13⟩ := hv_11
        refine j7_read hx hb hown hK (C := RX7) (T := TX7) (N := 5) rfl hly_9_2 hlk_103 (hh_12.at 0 rfl) dX7_formula_23 ?_
        refine lv_if_le (tgt := 292) hx hb dX7_formula_26 (by decide) (fun c_14 => ?_) (fun c_14 => ?_)
        · skip
          have c_14' : height_13.toInt ≤ 0 := jb_le (rfl) ((by decide)) c_14
          have hsz_15 := hh_12.2.2.2.2.2.1
          have htt_15 := hh_12.2.2.2.2.2.2.1
          refine W.room (fun hrc_15 hrs_15 => ?_)
          refine W.widen (k := LC - s.heap.size) (n := LS - jTot s.heap) (by omega) (by omega) ?_
          rw [hQ]
          exact W.vret hx hb hr (fun t ht hW => ⟨⟨(wc_5, wr_5, m_wr_5, Gx_5), rfl, by (try dsimp only); exact ⟨(by first | omega | rfl | assumption | fail), (by first | omega | rfl | assumption | fail), (by first | omega | rfl | assumption | fail), (by first | omega | rfl | assumption | fail), (by first | assumption | fail | omega)⟩, ⟨hh_12.ra (by first | omega | (simp only; omega)) (by first | omega | (simp only; omega)) (M1 := [(r2, 2, 1, .int wc_5), (r2, 2, 0, .ref wr_5)]) [1, 2] rfl ht, hg_wr_5, hN_5, by rw [ht]; exact hh_12.iv 0 rfl⟩⟩, by rw [ht]; try exact hh_12.1.1, fun q h9 hq => by rw [ht]; try exact hh_12.1.2.1 q h9 hq⟩) hh_12.1.2.2 dX7_formula_292
        · skip
          have c_14' : height_13.toInt > 0 := jb_le_n (rfl) ((by decide)) c_14
          refine lv_aload_n hx hb dX7_formula_29 rfl (lv_at hl 0 rfl) ?_
          refine lv_dup hx hb dX7_formula_30 rfl ?_
          refine j7_read hx hb hown hK (C := RX7) (T := TX7) (N := 5) rfl hly_9_2 hlk_103 (hh_12.at 0 rfl) dX7_formula_31 ?_
          refine lv_iconst (v := 1) hx hb dX7_formula_34 (by decide) ?_
          refine lv_isub hx hb dX7_formula_35 ?_
          refine lv_topi (fun z_16 ez_16 => ?_)
          have hz_16 : z_16.toInt = height_13.toInt - 1 := by rw [ez_16]; exact jb_isub2 (rfl) ((by decide)) (by omega)
          refine j7_put hx hb hown hK hh_12 hB hAp hB9 (C := RX7) (T := TX7) (N := 5) rfl (by decide) hg_6 (i := 2) (by decide) hly_9_2 rfl hlk_103 rfl (ty := .int) (v := .int z_16) (by decide +kernel) rfl rfl (⟨_, rfl, by omega, by omega⟩) rfl (L1 := [(r2, 2, 1, .int wc_5), (r2, 2, 0, .ref wr_5)]) [1, 2] rfl rfl rfl dX7_formula_36 (fun H_17 locs_17 hh_17 => ?_)
          clear hh_12
          refine lv_aload_n hx hb dX7_formula_39 rfl (lv_at hl 0 rfl) ?_
          obtain ⟨v_18, hv_18, hh_19⟩ := hh_17.pin (C := RX7) (T := TX7) (N := 5) hB9 rfl (by decide) hg_6 (i := 1) (by decide) rfl
          clear hh_17
          obtain ⟨stack_20, rfl, hg_stack_20⟩ := hv_18
          refine j7_read hx hb hown hK (C := RX7) (T := TX7) (N := 5) rfl hly_9_1 hlk_11 (hh_19.at 0 rfl) dX7_formula_40 ?_
          refine lv_aload_n hx hb dX7_formula_43 rfl (lv_at hl 0 rfl) ?_
          refine j7_read hx hb hown hK (C := RX7) (T := TX7) (N := 5) rfl hly_9_2 hlk_103 (hh_19.at 1 rfl) dX7_formula_44 ?_
          refine j7_iald hx hb hK hh_19 hB286 1 rfl (by decide) hg_stack_20 (x := z_16.toInt) (rfl) (by omega) dX7_formula_47 (fun z_21 (hz_21 : 0 ≤ z_21.toInt) => ?_)
          refine lv_iconst (v := 3) hx hb dX7_formula_48 (by decide) ?_
          refine lv_iand hx hb dX7_formula_49 ?_
          refine lv_topi (fun z_22 ez_22 => ?_)
          have hz_22 : 0 ≤ z_22.toInt ∧ z_22.toInt ≤ 3 := by rw [ez_22]; exact jb_and z_21 (m := 3) (k := 2) (by decide) (by decide)
          refine lv_istore (lv' := [(4, .int z_22), (0, .ref r0), (1, .ref r1), (2, .ref r2), (3, .int v3_5)]) hx hb dX7_formula_50 hl (by decide) rfl (fun ls hl => ?_)
          refine lv_aload_n hx hb dX7_formula_52 rfl (lv_at hl 1 rfl) ?_
          refine j7_read hx hb hown hK (C := RX7) (T := TX7) (N := 5) rfl hly_9_1 hlk_11 (hh_19.at 0 rfl) dX7_formula_53 ?_
          refine lv_aload_n hx hb dX7_formula_56 rfl (lv_at hl 1 rfl) ?_
          refine j7_read hx hb hown hK (C := RX7) (T := TX7) (N := 5) rfl hly_9_2 hlk_103 (hh_19.at 1 rfl) dX7_formula_57 ?_
          refine j7_iald hx hb hK hh_19 hB286 1 rfl (by decide) hg_stack_20 (x := z_16.toInt) (rfl) (by omega) dX7_formula_60 (fun z_23 (hz_23 : 0 ≤ z_23.toInt) => ?_)
          refine lv_iconst (v := 2) hx hb dX7_formula_61 (by decide) ?_
          refine lv_ishr hx hb dX7_formula_62 ?_
          refine lv_topi (fun z_24 ez_24 => ?_)
          have hz_24 : z_24.toInt = z_23.toInt / 2 ^ 2 := by rw [ez_24]; exact jb_ishr 2 (rfl) (by decide)
          have hbz_24 := jb_rng z_23
          refine lv_istore (lv' := [(5, .int z_24), (4, .int z_22), (0, .ref r0), (1, .ref r1), (2, .ref r2), (3, .int v3_5)]) hx hb dX7_formula_63 hl (by decide) rfl (fun ls hl => ?_)
          refine lv_iload hx hb dX7_formula_65 (lv_at hl 0 rfl) ?_
          refine lv_sipush (v := 255) hx hb dX7_formula_67 (by decide) ?_
          refine lv_iand hx hb dX7_formula_70 ?_
          refine lv_topi (fun z_25 ez_25 => ?_)
          have hz_25 : 0 ≤ z_25.toInt ∧ z_25.toInt ≤ 255 := by rw [ez_25]; exact jb_and z_24 (m := 255) (k := 8) (by decide) (by decide)
          have hbz_25 := jb_and0 ez_25 (by omega)
          refine lv_istore (lv' := [(6, .int z_25), (5, .int z_24), (4, .int z_22), (0, .ref r0), (1, .ref r1), (2, .ref r2), (3, .int v3_5)]) hx hb dX7_formula_71 hl (by decide) rfl (fun ls hl => ?_)
          refine lv_iload hx hb dX7_formula_73 (lv_at hl 2 rfl) ?_
          refine lv_iconst (v := 2) hx hb dX7_formula_75 (by decide) ?_
          have C97 : ∀ (w0_26 : Int32) (H_26 : Heap) (locs_26 : List Loc), jSt (dC, dI) B base G0 Gx_5 EX7_formula s.heap zcx_5 zsx_5 [(r0, 9, 1, .ref stack_20), (r0, 9, 2, .int z_16), (r2, 2, 1, .int wc_5), (r2, 2, 0, .ref wr_5)] [] [([(2, 0), (2, 1)], jOw (dC, dI) G0 2 r2 s.heap)] H_26 locs_26 → (0 ≤ w0_26.toInt ∧ w0_26.toInt ≤ 15 ∧ (w0_26.toInt = 0 ∨ z_25.toInt < n1)) → ∀ ls : Array Slot, lv_has ls 9 [(0, .ref r0), (1, .ref r1), (2, .ref r2), (3, .int v3_5), (4, .int z_22), (5, .int z_24), (6, .int z_25)] → W p l e R s m ([.ref r0, .ref r1, .ref r2] : List Value).toArray below meth c H_26 locs_26 zcx_5 zsx_5 Q (F0 m 97 ls [.int w0_26]) := by
            intro w0_26 H_26 locs_26 hh_26  hi_26 ls hl
            obtain ⟨hi_26_0, hi_26_1, hi_26_2⟩ := hi_26
            refine lv_istore (lv' := [(7, .int w0_26), (0, .ref r0), (1, .ref r1), (2, .ref r2), (3, .int v3_5), (4, .int z_22), (5, .int z_24), (6, .int z_25)]) hx hb dX7_formula_97 hl (by decide) rfl (fun ls hl => ?_)
            refine lv_iload hx hb dX7_formula_99 (lv_at hl 0 rfl) ?_
            refine lv_iconst (v := 5) hx hb dX7_formula_101 (by decide) ?_
            have C117 : ∀ (w0_27 : Int32) (H_27 : Heap) (locs_27 : List Loc), jSt (dC, dI) B base G0 Gx_5 EX7_formula s.heap zcx_5 zsx_5 [(r0, 9, 1, .ref stack_20), (r0, 9, 2, .int z_16), (r2, 2, 1, .int wc_5), (r2, 2, 0, .ref wr_5)] [] [([(2, 0), (2, 1)], jOw (dC, dI) G0 2 r2 s.heap)] H_27 locs_27 → (w0_27 = 0 ∨ w0_27 = 1) → (w0_27.toInt = 0 ∨ w0_26.toInt = 5 ∨ w0_26.toInt = 6) → ∀ ls : Array Slot, lv_has ls 9 [(0, .ref r0), (1, .ref r1), (2, .ref r2), (3, .int v3_5), (4, .int z_22), (5, .int z_24), (6, .int z_25), (7, .int w0_26)] → W p l e R s m ([.ref r0, .ref r1, .ref r2] : List Value).toArray below meth c H_27 locs_27 zcx_5 zsx_5 Q (F0 m 117 ls [.int w0_27]) := by
              intro w0_27 H_27 locs_27 hh_27 hb_w0_27 hi_27 ls hl
              have hb_w0_27' := jb_01 hb_w0_27
              refine lv_istore (lv' := [(8, .int w0_27), (0, .ref r0), (1, .ref r1), (2, .ref r2), (3, .int v3_5), (4, .int z_22), (5, .int z_24), (6, .int z_25), (7, .int w0_26)]) hx hb dX7_formula_117 hl (by decide) rfl (fun ls hl => ?_)
              refine lv_iload hx hb dX7_formula_119 (lv_at hl 5 rfl) ?_
              refine lv_if_ne (tgt := 136) hx hb dX7_formula_121 (by decide) (fun c_28 => ?_) (fun c_28 => ?_)
              · skip
                have c_28' : z_22.toInt ≠ 0 := jb_ne (rfl) ((by decide)) c_28
                refine lv_iload hx hb dX7_formula_136 (lv_at hl 5 rfl) ?_
                refine lv_iconst (v := 1) hx hb dX7_formula_138 (by decide) ?_
                refine lv_icmp_ne (tgt := 163) hx hb dX7_formula_139 (by decide) (fun c_29 => ?_) (fun c_29 => ?_)
                · skip
                  have c_29' : z_22.toInt ≠ 1 := jb_ne (rfl) ((by decide)) c_29
                  refine lv_iload hx hb dX7_formula_163 (lv_at hl 6 rfl) ?_
                  refine lv_sipush (v := 512) hx hb dX7_formula_165 (by decide) ?_
                  refine lv_iand hx hb dX7_formula_168 ?_
                  refine lv_topi (fun z_30 ez_30 => ?_)
                  refine lv_if_ne (tgt := 186) hx hb dX7_formula_169 (by decide) (fun c_31 => ?_) (fun c_31 => ?_)
                  · skip
                    have c_31' : z_30.toInt ≠ 0 := jb_ne (rfl) ((by decide)) c_31
                    refine lv_aload_n hx hb dX7_formula_186 rfl (lv_at hl 1 rfl) ?_
                    refine lv_iconst (v := 0) hx hb dX7_formula_187 (by decide) ?_
                    refine lv_bipush (v := 16) hx hb dX7_formula_188 (by decide) ?_
                    have hsz_32 := hh_27.2.2.2.2.2.1
                    have htt_32 := hh_27.2.2.2.2.2.2.1
                    refine W.room (fun hrc_32 hrs_32 => ?_)
                    refine va_callv (A0 := jA base) (H0 := s.heap) (va_runV (As := [.int 0, .int 16]) (rest := []) ⟨hx, hb, hml, hown, hts⟩ (uX7_pushB l dC dI ca base B hB hAp hB9 hB286 Gx_5 H_27 r0 0 16) (cwV 2 hts (jgV (jWr_31 _ (List.mem_of_getElem? (i := 9) rfl)) (jWr_31 _ (List.mem_of_getElem? (i := 10) rfl)) (jWr_31 _ (List.mem_of_getElem? (i := 11) rfl)) (jWr_2 _ (List.mem_of_getElem? (i := 8) rfl)) (jWr_31 _ (List.mem_of_getElem? (i := 12) rfl))) rfl rfl rfl (by decide +kernel) ⟨by rw [← hR]; exact Nat.le_of_ble_eq_true rfl, by rw [← hR]; exact Nat.le_of_ble_eq_true rfl⟩) ⟨fun a U g mk q => by obtain ⟨q0, q1, q2, qK, q10, q11, q12⟩ := q; exact ⟨q0, q1, q2, jG.calling g mk a qK, q10, q11, q12⟩, hh_27.recv (C := RX7) (T := TX7) (N := 5) hB9 rfl (by decide) hg_6 hK, fun U hU hW => ⟨rfl, hU, hh_27.2.1, hG.step hW hU hh_27.1, hg_6, jP.nil, ⟨(by first | omega | rfl | assumption | fail), (by first | omega | rfl | assumption | fail), (by first | omega | rfl | assumption | fail), (by first | omega | rfl | assumption | fail)⟩⟩⟩ rfl rfl hl.1 rfl (lv_room (Nat.le_of_ble_eq_true rfl)) dX7_formula_190 ⟨by rw [hRc]; show _ + 0 ≤ _; omega, by rw [hRs]; show _ + 0 ≤ _; omega⟩) hh_27.1 (fun q _ h => h) (fun q h => h) (fun u_32 t_32 H_32 locs_32 ht_32 hvm_32 hr_33 hb_32 hz_32 hk_32 hS_32 => ?_)
                    rw [ht_32] at hb_32
                    obtain ⟨hb_321, hb_322, hb_323, hb_324, hb_325⟩ := hb_32
                    have hh_32 : jSt (dC, dI) B base G0 Gx_5 EX7_formula s.heap zcx_5 zsx_5 [(r0, 9, 1, .ref stack_20), (r2, 2, 1, .int wc_5), (r2, 2, 0, .ref wr_5)] [] [([(2, 0), (2, 1)], jOw (dC, dI) G0 2 r2 s.heap)] H_32 locs_32 := ((hh_27.call hb_321 hb_322 hb_323 hb_324 hS_32 rfl (L1 := [(r0, 9, 1, .ref stack_20), (r2, 2, 1, .int wc_5), (r2, 2, 0, .ref wr_5)]) [0, 2, 3] rfl rfl (M1 := []) [] rfl rfl (I1 := [([(2, 0), (2, 1)], jOw (dC, dI) G0 2 r2 s.heap)]) [0] rfl rfl).more hb_325)
                    clear hh_27 ht_32 hvm_32 hz_32 hk_32 hS_32 hb_321 hb_322 hb_323 hb_324 hb_325
                    refine lv_aload_n hx hb dX7_formula_193 rfl (lv_at hl 1 rfl) ?_
                    refine lv_iconst (v := 2) hx hb dX7_formula_194 (by decide) ?_
                    refine lv_iload hx hb dX7_formula_195 (lv_at hl 6 rfl) ?_
                    refine lv_sipush (v := (-513)) hx hb dX7_formula_197 (by decide) ?_
                    refine lv_iand hx hb dX7_formula_200 ?_
                    refine lv_topi (fun z_34 ez_34 => ?_)
                    have hbz_34 := jb_and0 ez_34 (by omega)
                    refine lv_sipush (v := 256) hx hb dX7_formula_201 (by decide) ?_
                    refine lv_ior hx hb dX7_formula_204 ?_
                    refine lv_topi (fun z_35 ez_35 => ?_)
                    have hbz_35 := jb_or29 ez_35 (by omega) (by omega) (by omega) (by omega)
                    have hsz_36 := hh_32.2.2.2.2.2.1
                    have htt_36 := hh_32.2.2.2.2.2.2.1
                    refine W.room (fun hrc_36 hrs_36 => ?_)
                    refine va_callv (A0 := jA base) (H0 := s.heap) (va_runV (As := [.int 2, .int z_35]) (rest := []) ⟨hx, hb, hml, hown, hts⟩ (uX7_pushB l dC dI ca base B hB hAp hB9 hB286 Gx_5 H_32 r0 2 z_35) (cwV 2 hts (jgV (jWr_31 _ (List.mem_of_getElem? (i := 9) rfl)) (jWr_31 _ (List.mem_of_getElem? (i := 10) rfl)) (jWr_31 _ (List.mem_of_getElem? (i := 11) rfl)) (jWr_2 _ (List.mem_of_getElem? (i := 8) rfl)) (jWr_31 _ (List.mem_of_getElem? (i := 12) rfl))) rfl rfl rfl (by decide +kernel) ⟨by rw [← hR]; exact Nat.le_of_ble_eq_true rfl, by rw [← hR]; exact Nat.le_of_ble_eq_true rfl⟩) ⟨fun a U g mk q => by obtain ⟨q0, q1, q2, qK, q10, q11, q12⟩ := q; exact ⟨q0, q1, q2, jG.calling g mk a qK, q10, q11, q12⟩, hh_32.recv (C := RX7) (T := TX7) (N := 5) hB9 rfl (by decide) hg_6 hK, fun U hU hW => ⟨rfl, hU, hh_32.2.1, hG.step hW hU hh_32.1, hg_6, jP.nil, ⟨(by first | omega | rfl | assumption | fail), (by first | omega | rfl | assumption | fail), (by first | omega | rfl | assumption | fail), (by first | omega | rfl | assumption | fail)⟩⟩⟩ rfl rfl hl.1 rfl (lv_room (Nat.le_of_ble_eq_true rfl)) dX7_formula_205 ⟨by rw [hRc]; show _ + 0 ≤ _; omega, by rw [hRs]; show _ + 0 ≤ _; omega⟩) hh_32.1 (fun q _ h => h) (fun q h => h) (fun u_36 t_36 H_36 locs_36 ht_36 hvm_36 hr_37 hb_36 hz_36 hk_36 hS_36 => ?_)
                    rw [ht_36] at hb_36
                    obtain ⟨hb_361, hb_362, hb_363, hb_364, hb_365⟩ := hb_36
                    have hh_36 : jSt (dC, dI) B base G0 Gx_5 EX7_formula s.heap zcx_5 zsx_5 [(r0, 9, 1, .ref stack_20), (r2, 2, 1, .int wc_5), (r2, 2, 0, .ref wr_5)] [] [([(2, 0), (2, 1)], jOw (dC, dI) G0 2 r2 s.heap)] H_36 locs_36 := ((hh_32.call hb_361 hb_362 hb_363 hb_364 hS_36 rfl (L1 := [(r0, 9, 1, .ref stack_20), (r2, 2, 1, .int wc_5), (r2, 2, 0, .ref wr_5)]) [0, 1, 2] rfl rfl (M1 := []) [] rfl rfl (I1 := [([(2, 0), (2, 1)], jOw (dC, dI) G0 2 r2 s.heap)]) [0] rfl rfl).more hb_365)
                    clear hh_32 ht_36 hvm_36 hz_36 hk_36 hS_36 hb_361 hb_362 hb_363 hb_364 hb_365
                    refine lv_aload_n hx hb dX7_formula_208 rfl (lv_at hl 1 rfl) ?_
                    refine lv_iconst (v := 0) hx hb dX7_formula_209 (by decide) ?_
                    refine lv_bipush (v := 17) hx hb dX7_formula_210 (by decide) ?_
                    have hsz_38 := hh_36.2.2.2.2.2.1
                    have htt_38 := hh_36.2.2.2.2.2.2.1
                    refine W.room (fun hrc_38 hrs_38 => ?_)
                    refine va_callv (A0 := jA base) (H0 := s.heap) (va_runV (As := [.int 0, .int 17]) (rest := []) ⟨hx, hb, hml, hown, hts⟩ (uX7_pushB l dC dI ca base B hB hAp hB9 hB286 Gx_5 H_36 r0 0 17) (cwV 2 hts (jgV (jWr_31 _ (List.mem_of_getElem? (i := 9) rfl)) (jWr_31 _ (List.mem_of_getElem? (i := 10) rfl)) (jWr_31 _ (List.mem_of_getElem? (i := 11) rfl)) (jWr_2 _ (List.mem_of_getElem? (i := 8) rfl)) (jWr_31 _ (List.mem_of_getElem? (i := 12) rfl))) rfl rfl rfl (by decide +kernel) ⟨by rw [← hR]; exact Nat.le_of_ble_eq_true rfl, by rw [← hR]; exact Nat.le_of_ble_eq_true rfl⟩) ⟨fun a U g mk q => by obtain ⟨q0, q1, q2, qK, q10, q11, q12⟩ := q; exact ⟨q0, q1, q2, jG.calling g mk a qK, q10, q11, q12⟩, hh_36.recv (C := RX7) (T := TX7) (N := 5) hB9 rfl (by decide) hg_6 hK, fun U hU hW => ⟨rfl, hU, hh_36.2.1, hG.step hW hU hh_36.1, hg_6, jP.nil, ⟨(by first | omega | rfl | assumption | fail), (by first | omega | rfl | assumption | fail), (by first | omega | rfl | assumption | fail), (by first | omega | rfl | assumption | fail)⟩⟩⟩ rfl rfl hl.1 rfl (lv_room (Nat.le_of_ble_eq_true rfl)) dX7_formula_212 ⟨by rw [hRc]; show _ + 0 ≤ _; omega, by rw [hRs]; show _ + 0 ≤ _; omega⟩) hh_36.1 (fun q _ h => h) (fun q h => h) (fun u_38 t_38 H_38 locs_38 ht_38 hvm_38 hr_39 hb_38 hz_38 hk_38 hS_38 => ?_)
                    rw [ht_38] at hb_38
                    obtain ⟨hb_381, hb_382, hb_383, hb_384, hb_385⟩ := hb_38
                    have hh_38 : jSt (dC, dI) B base G0 Gx_5 EX7_formula s.heap zcx_5 zsx_5 [(r0, 9, 1, .ref stack_20), (r2, 2, 1, .int wc_5), (r2, 2, 0, .ref wr_5)] [] [([(2, 0), (2, 1)], jOw (dC, dI) G0 2 r2 s.heap)] H_38 locs_38 := ((hh_36.call hb_381 hb_382 hb_383 hb_384 hS_38 rfl (L1 := [(r0, 9, 1, .ref stack_20), (r2, 2, 1, .int wc_5), (r2, 2, 0, .ref wr_5)]) [0, 1, 2] rfl rfl (M1 := []) [] rfl rfl (I1 := [([(2, 0), (2, 1)], jOw (dC, dI) G0 2 r2 s.heap)]) [0] rfl rfl).more hb_385)
                    clear hh_36 ht_38 hvm_38 hz_38 hk_38 hS_38 hb_381 hb_382 hb_383 hb_384 hb_385
                    refine lv_goto (tgt := 286) hx hb dX7_formula_215 (by decide) ?_
                    obtain ⟨z_40, ez_40⟩ : ∃ y : Int32, y = v3_5 + 1 := ⟨_, rfl⟩
                    refine lv_iinc (v := z_40) (lv' := [(3, .int z_40), (8, .int w0_27), (0, .ref r0), (1, .ref r1), (2, .ref r2), (4, .int z_22), (5, .int z_24), (6, .int z_25), (7, .int w0_26)]) hx hb dX7_formula_286 hl (k := 4) rfl (by rw [ez_40]; rfl) (by decide) rfl (fun ls hl => ?_)
                    have hz_40 : z_40.toInt = v3_5.toInt + 1 := by rw [ez_40]; exact jb_iadd2 (rfl) (by decide) (by omega)
                    refine lv_goto (tgt := 15) hx hb dX7_formula_289 (by decide) ?_
                    refine W.tight (c2 := zcx_5) (n2 := zsx_5) hh_38.2.2.2.2.2.1 hh_38.2.2.2.2.2.2.1 ?_
                    exact L15 Gx_5 zcx_5 zsx_5 z_40 wc_5 wr_5 m_wr_5 _ _ (hh_38.sub (L1 := [(r2, 2, 1, .int wc_5), (r2, 2, 0, .ref wr_5)]) [1, 2] rfl (M1 := []) [] rfl (I1 := [([(2, 0), (2, 1)], jOw (dC, dI) G0 2 r2 s.heap)]) [0] rfl) (hN_5) (hle_5) hg_wr_5 (⟨(by first | omega | rfl | assumption | fail), (by first | omega | rfl | assumption | fail), (by first | omega | rfl | assumption | fail), (by first | omega | rfl | assumption | fail), (by first | assumption | fail | omega), (by first | omega | rfl | assumption | fail), (by first | omega | rfl | assumption | fail), (by first | omega | rfl | assumption | fail), (by first | omega | rfl | assumption | fail)⟩) (by omega) _ (lv_sub hl [2, 3, 4, 0] rfl)
                  · skip
                    have c_31' : z_30.toInt = 0 := jb_ne_n (rfl) ((by decide)) c_31
                    refine lv_iload hx hb dX7_formula_172 (lv_at hl 0 rfl) ?_
                    refine lv_if_eq (tgt := 218) hx hb dX7_formula_174 (by decide) (fun c_41 => ?_) (fun c_41 => ?_)
                    · skip
                      have c_41' : w0_27.toInt = 0 := jb_eq (rfl) ((by decide)) c_41
                      refine lv_iload hx hb dX7_formula_218 (lv_at hl 0 rfl) ?_
                      refine lv_if_eq (tgt := 238) hx hb dX7_formula_220 (by decide) (fun c_42 => ?_) (fun c_42 => ?_)
                      · skip
                        have c_42' : w0_27.toInt = 0 := jb_eq (rfl) ((by decide)) c_42
                        refine lv_iload hx hb dX7_formula_238 (lv_at hl 8 rfl) ?_
                        refine lv_iconst (v := 1) hx hb dX7_formula_240 (by decide) ?_
                        refine lv_icmp_lt (tgt := 265) hx hb dX7_formula_241 (by decide) (fun c_43 => ?_) (fun c_43 => ?_)
                        · skip
                          have c_43' : w0_26.toInt < 1 := jb_lt (rfl) ((by decide)) c_43
                          refine lv_iload hx hb dX7_formula_265 (lv_at hl 8 rfl) ?_
                          refine lv_if_ne (tgt := 279) hx hb dX7_formula_267 (by decide) (fun c_44 => ?_) (fun c_44 => ?_)
                          · skip
                            have c_44' : w0_26.toInt ≠ 0 := jb_ne (rfl) ((by decide)) c_44
                            refine lv_aload_n hx hb dX7_formula_279 rfl (lv_at hl 1 rfl) ?_
                            refine lv_aload_n hx hb dX7_formula_280 rfl (lv_at hl 2 rfl) ?_
                            refine lv_iload hx hb dX7_formula_281 (lv_at hl 7 rfl) ?_
                            have hsz_45 := hh_27.2.2.2.2.2.1
                            have htt_45 := hh_27.2.2.2.2.2.2.1
                            refine W.room (fun hrc_45 hrs_45 => ?_)
                            refine va_callv (A0 := jA base) (H0 := s.heap) (va_runV (As := [.ref r1, .int z_25]) (rest := []) ⟨hx, hb, hml, hown, hts⟩ (uX7_pushTermB l dC dI ca base B hB hAp hB9 hB180 hB286 hB287 hB288 Gx_5 H_27 r0 r1 z_25 n1) (cwV 2 hts (jgV (jWr_32 _ (List.mem_of_getElem? (i := 16) rfl)) (jWr_32 _ (List.mem_of_getElem? (i := 17) rfl)) (jWr_32 _ (List.mem_of_getElem? (i := 18) rfl)) (jWr_2 _ (List.mem_of_getElem? (i := 8) rfl)) (jWr_32 _ (List.mem_of_getElem? (i := 19) rfl))) rfl rfl rfl (by decide +kernel) ⟨by rw [← hR]; exact Nat.le_of_ble_eq_true rfl, by rw [← hR]; exact Nat.le_of_ble_eq_true rfl⟩) ⟨fun a U g mk q => by obtain ⟨q0, q1, q2, qK, q10, q11, q12, q13⟩ := q; exact ⟨q0, q1, q2, jG.calling g mk a qK, q10, q11, q12, q13⟩, hh_27.recv (C := RX7) (T := TX7) (N := 5) hB9 rfl (by decide) hg_6 hK, fun U hU hW => ⟨rfl, hU, hh_27.2.1, hG.step hW hU hh_27.1, hg_7, hg_6, jP.nil, ⟨(by first | omega | rfl | assumption | fail), (by first | omega | rfl | assumption | fail), (by first | omega | rfl | assumption | fail)⟩⟩⟩ rfl rfl hl.1 rfl (lv_room (Nat.le_of_ble_eq_true rfl)) dX7_formula_283 ⟨by rw [hRc]; show _ + 0 ≤ _; omega, by rw [hRs]; show _ + 0 ≤ _; omega⟩) hh_27.1 (fun q _ h => h) (fun q h => h) (fun u_45 t_45 H_45 locs_45 ht_45 hvm_45 hr_46 hb_45 hz_45 hk_45 hS_45 => ?_)
                            rw [ht_45] at hb_45
                            obtain ⟨hb_451, hb_452, hb_453, hb_454, hb_455⟩ := hb_45
                            have hh_45 : jSt (dC, dI) B base G0 Gx_5 EX7_formula s.heap zcx_5 zsx_5 [(r0, 9, 1, .ref stack_20), (r2, 2, 1, .int wc_5), (r2, 2, 0, .ref wr_5)] [] [([(2, 0), (2, 1)], jOw (dC, dI) G0 2 r2 s.heap)] H_45 locs_45 := ((hh_27.call hb_451 hb_452 hb_453 hb_454 hS_45 rfl (L1 := [(r0, 9, 1, .ref stack_20), (r2, 2, 1, .int wc_5), (r2, 2, 0, .ref wr_5)]) [0, 2, 3] rfl rfl (M1 := []) [] rfl rfl (I1 := [([(2, 0), (2, 1)], jOw (dC, dI) G0 2 r2 s.heap)]) [0] rfl rfl).more hb_455)
                            clear hh_27 ht_45 hvm_45 hz_45 hk_45 hS_45 hb_451 hb_452 hb_453 hb_454 hb_455
                            obtain ⟨z_47, ez_47⟩ : ∃ y : Int32, y = v3_5 + 1 := ⟨_, rfl⟩
                            refine lv_iinc (v := z_47) (lv' := [(3, .int z_47), (8, .int w0_27), (0, .ref r0), (1, .ref r1), (2, .ref r2), (4, .int z_22), (5, .int z_24), (6, .int z_25), (7, .int w0_26)]) hx hb dX7_formula_286 hl (k := 4) rfl (by rw [ez_47]; rfl) (by decide) rfl (fun ls hl => ?_)
                            have hz_47 : z_47.toInt = v3_5.toInt + 1 := by rw [ez_47]; exact jb_iadd2 (rfl) (by decide) (by omega)
                            refine lv_goto (tgt := 15) hx hb dX7_formula_289 (by decide) ?_
                            refine W.tight (c2 := zcx_5) (n2 := zsx_5) hh_45.2.2.2.2.2.1 hh_45.2.2.2.2.2.2.1 ?_
                            exact L15 Gx_5 zcx_5 zsx_5 z_47 wc_5 wr_5 m_wr_5 _ _ (hh_45.sub (L1 := [(r2, 2, 1, .int wc_5), (r2, 2, 0, .ref wr_5)]) [1, 2] rfl (M1 := []) [] rfl (I1 := [([(2, 0), (2, 1)], jOw (dC, dI) G0 2 r2 s.heap)]) [0] rfl) (hN_5) (hle_5) hg_wr_5 (⟨(by first | omega | rfl | assumption | fail), (by first | omega | rfl | assumption | fail), (by first | omega | rfl | assumption | fail), (by first | omega | rfl | assumption | fail), (by first | assumption | fail | omega), (by first | omega | rfl | assumption | fail), (by first | omega | rfl | assumption | fail), (by first | omega | rfl | assumption | fail), (by first | omega | rfl | assumption | fail)⟩) (by omega) _ (lv_sub hl [2, 3, 4, 0] rfl)
                          · skip
                            have c_44' : w0_26.toInt = 0 := jb_ne_n (rfl) ((by decide)) c_44
                            refine lv_aload_n hx hb dX7_formula_270 rfl (lv_at hl 1 rfl) ?_
                            refine lv_iconst (v := 0) hx hb dX7_formula_271 (by decide) ?_
                            refine lv_iconst (v := 0) hx hb dX7_formula_272 (by decide) ?_
                            have hsz_48 := hh_27.2.2.2.2.2.1
                            have htt_48 := hh_27.2.2.2.2.2.2.1
                            refine W.room (fun hrc_48 hrs_48 => ?_)
                            refine va_callv (A0 := jA base) (H0 := s.heap) (va_runV (As := [.int 0, .int 0]) (rest := []) ⟨hx, hb, hml, hown, hts⟩ (uX7_pushB l dC dI ca base B hB hAp hB9 hB286 Gx_5 H_27 r0 0 0) (cwV 2 hts (jgV (jWr_31 _ (List.mem_of_getElem? (i := 9) rfl)) (jWr_31 _ (List.mem_of_getElem? (i := 10) rfl)) (jWr_31 _ (List.mem_of_getElem? (i := 11) rfl)) (jWr_2 _ (List.mem_of_getElem? (i := 8) rfl)) (jWr_31 _ (List.mem_of_getElem? (i := 12) rfl))) rfl rfl rfl (by decide +kernel) ⟨by rw [← hR]; exact Nat.le_of_ble_eq_true rfl, by rw [← hR]; exact Nat.le_of_ble_eq_true rfl⟩) ⟨fun a U g mk q => by obtain ⟨q0, q1, q2, qK, q10, q11, q12⟩ := q; exact ⟨q0, q1, q2, jG.calling g mk a qK, q10, q11, q12⟩, hh_27.recv (C := RX7) (T := TX7) (N := 5) hB9 rfl (by decide) hg_6 hK, fun U hU hW => ⟨rfl, hU, hh_27.2.1, hG.step hW hU hh_27.1, hg_6, jP.nil, ⟨(by first | omega | rfl | assumption | fail), (by first | omega | rfl | assumption | fail), (by first | omega | rfl | assumption | fail), (by first | omega | rfl | assumption | fail)⟩⟩⟩ rfl rfl hl.1 rfl (lv_room (Nat.le_of_ble_eq_true rfl)) dX7_formula_273 ⟨by rw [hRc]; show _ + 0 ≤ _; omega, by rw [hRs]; show _ + 0 ≤ _; omega⟩) hh_27.1 (fun q _ h => h) (fun q h => h) (fun u_48 t_48 H_48 locs_48 ht_48 hvm_48 hr_49 hb_48 hz_48 hk_48 hS_48 => ?_)
                            rw [ht_48] at hb_48
                            obtain ⟨hb_481, hb_482, hb_483, hb_484, hb_485⟩ := hb_48
                            have hh_48 : jSt (dC, dI) B base G0 Gx_5 EX7_formula s.heap zcx_5 zsx_5 [(r0, 9, 1, .ref stack_20), (r2, 2, 1, .int wc_5), (r2, 2, 0, .ref wr_5)] [] [([(2, 0), (2, 1)], jOw (dC, dI) G0 2 r2 s.heap)] H_48 locs_48 := ((hh_27.call hb_481 hb_482 hb_483 hb_484 hS_48 rfl (L1 := [(r0, 9, 1, .ref stack_20), (r2, 2, 1, .int wc_5), (r2, 2, 0, .ref wr_5)]) [0, 2, 3] rfl rfl (M1 := []) [] rfl rfl (I1 := [([(2, 0), (2, 1)], jOw (dC, dI) G0 2 r2 s.heap)]) [0] rfl rfl).more hb_485)
                            clear hh_27 ht_48 hvm_48 hz_48 hk_48 hS_48 hb_481 hb_482 hb_483 hb_484 hb_485
                            refine lv_goto (tgt := 286) hx hb dX7_formula_276 (by decide) ?_
                            obtain ⟨z_50, ez_50⟩ : ∃ y : Int32, y = v3_5 + 1 := ⟨_, rfl⟩
                            refine lv_iinc (v := z_50) (lv' := [(3, .int z_50), (8, .int w0_27), (0, .ref r0), (1, .ref r1), (2, .ref r2), (4, .int z_22), (5, .int z_24), (6, .int z_25), (7, .int w0_26)]) hx hb dX7_formula_286 hl (k := 4) rfl (by rw [ez_50]; rfl) (by decide) rfl (fun ls hl => ?_)
                            have hz_50 : z_50.toInt = v3_5.toInt + 1 := by rw [ez_50]; exact jb_iadd2 (rfl) (by decide) (by omega)
                            refine lv_goto (tgt := 15) hx hb dX7_formula_289 (by decide) ?_
                            refine W.tight (c2 := zcx_5) (n2 := zsx_5) hh_48.2.2.2.2.2.1 hh_48.2.2.2.2.2.2.1 ?_
                            exact L15 Gx_5 zcx_5 zsx_5 z_50 wc_5 wr_5 m_wr_5 _ _ (hh_48.sub (L1 := [(r2, 2, 1, .int wc_5), (r2, 2, 0, .ref wr_5)]) [1, 2] rfl (M1 := []) [] rfl (I1 := [([(2, 0), (2, 1)], jOw (dC, dI) G0 2 r2 s.heap)]) [0] rfl) (hN_5) (hle_5) hg_wr_5 (⟨(by first | omega | rfl | assumption | fail), (by first | omega | rfl | assumption | fail), (by first | omega | rfl | assumption | fail), (by first | omega | rfl | assumption | fail), (by first | assumption | fail | omega), (by first | omega | rfl | assumption | fail), (by first | omega | rfl | assumption | fail), (by first | omega | rfl | assumption | fail), (by first | omega | rfl | assumption | fail)⟩) (by omega) _ (lv_sub hl [2, 3, 4, 0] rfl)
                        · skip
                          have c_43' : w0_26.toInt ≥ 1 := jb_lt_n (rfl) ((by decide)) c_43
                          refine lv_iload hx hb dX7_formula_244 (lv_at hl 8 rfl) ?_
                          refine lv_iconst (v := 4) hx hb dX7_formula_246 (by decide) ?_
                          refine lv_icmp_gt (tgt := 265) hx hb dX7_formula_247 (by decide) (fun c_51 => ?_) (fun c_51 => ?_)
                          · skip
                            have c_51' : w0_26.toInt > 4 := jb_gt (rfl) ((by decide)) c_51
                            refine lv_iload hx hb dX7_formula_265 (lv_at hl 8 rfl) ?_
                            refine lv_if_ne (tgt := 279) hx hb dX7_formula_267 (by decide) (fun c_52 => ?_) (fun c_52 => ?_)
                            · skip
                              have c_52' : w0_26.toInt ≠ 0 := jb_ne (rfl) ((by decide)) c_52
                              refine lv_aload_n hx hb dX7_formula_279 rfl (lv_at hl 1 rfl) ?_
                              refine lv_aload_n hx hb dX7_formula_280 rfl (lv_at hl 2 rfl) ?_
                              refine lv_iload hx hb dX7_formula_281 (lv_at hl 7 rfl) ?_
                              have hsz_53 := hh_27.2.2.2.2.2.1
                              have htt_53 := hh_27.2.2.2.2.2.2.1
                              refine W.room (fun hrc_53 hrs_53 => ?_)
                              refine va_callv (A0 := jA base) (H0 := s.heap) (va_runV (As := [.ref r1, .int z_25]) (rest := []) ⟨hx, hb, hml, hown, hts⟩ (uX7_pushTermB l dC dI ca base B hB hAp hB9 hB180 hB286 hB287 hB288 Gx_5 H_27 r0 r1 z_25 n1) (cwV 2 hts (jgV (jWr_32 _ (List.mem_of_getElem? (i := 16) rfl)) (jWr_32 _ (List.mem_of_getElem? (i := 17) rfl)) (jWr_32 _ (List.mem_of_getElem? (i := 18) rfl)) (jWr_2 _ (List.mem_of_getElem? (i := 8) rfl)) (jWr_32 _ (List.mem_of_getElem? (i := 19) rfl))) rfl rfl rfl (by decide +kernel) ⟨by rw [← hR]; exact Nat.le_of_ble_eq_true rfl, by rw [← hR]; exact Nat.le_of_ble_eq_true rfl⟩) ⟨fun a U g mk q => by obtain ⟨q0, q1, q2, qK, q10, q11, q12, q13⟩ := q; exact ⟨q0, q1, q2, jG.calling g mk a qK, q10, q11, q12, q13⟩, hh_27.recv (C := RX7) (T := TX7) (N := 5) hB9 rfl (by decide) hg_6 hK, fun U hU hW => ⟨rfl, hU, hh_27.2.1, hG.step hW hU hh_27.1, hg_7, hg_6, jP.nil, ⟨(by first | omega | rfl | assumption | fail), (by first | omega | rfl | assumption | fail), (by first | omega | rfl | assumption | fail)⟩⟩⟩ rfl rfl hl.1 rfl (lv_room (Nat.le_of_ble_eq_true rfl)) dX7_formula_283 ⟨by rw [hRc]; show _ + 0 ≤ _; omega, by rw [hRs]; show _ + 0 ≤ _; omega⟩) hh_27.1 (fun q _ h => h) (fun q h => h) (fun u_53 t_53 H_53 locs_53 ht_53 hvm_53 hr_54 hb_53 hz_53 hk_53 hS_53 => ?_)
                              rw [ht_53] at hb_53
                              obtain ⟨hb_531, hb_532, hb_533, hb_534, hb_535⟩ := hb_53
                              have hh_53 : jSt (dC, dI) B base G0 Gx_5 EX7_formula s.heap zcx_5 zsx_5 [(r0, 9, 1, .ref stack_20), (r2, 2, 1, .int wc_5), (r2, 2, 0, .ref wr_5)] [] [([(2, 0), (2, 1)], jOw (dC, dI) G0 2 r2 s.heap)] H_53 locs_53 := ((hh_27.call hb_531 hb_532 hb_533 hb_534 hS_53 rfl (L1 := [(r0, 9, 1, .ref stack_20), (r2, 2, 1, .int wc_5), (r2, 2, 0, .ref wr_5)]) [0, 2, 3] rfl rfl (M1 := []) [] rfl rfl (I1 := [([(2, 0), (2, 1)], jOw (dC, dI) G0 2 r2 s.heap)]) [0] rfl rfl).more hb_535)
                              clear hh_27 ht_53 hvm_53 hz_53 hk_53 hS_53 hb_531 hb_532 hb_533 hb_534 hb_535
                              obtain ⟨z_55, ez_55⟩ : ∃ y : Int32, y = v3_5 + 1 := ⟨_, rfl⟩
                              refine lv_iinc (v := z_55) (lv' := [(3, .int z_55), (8, .int w0_27), (0, .ref r0), (1, .ref r1), (2, .ref r2), (4, .int z_22), (5, .int z_24), (6, .int z_25), (7, .int w0_26)]) hx hb dX7_formula_286 hl (k := 4) rfl (by rw [ez_55]; rfl) (by decide) rfl (fun ls hl => ?_)
                              have hz_55 : z_55.toInt = v3_5.toInt + 1 := by rw [ez_55]; exact jb_iadd2 (rfl) (by decide) (by omega)
                              refine lv_goto (tgt := 15) hx hb dX7_formula_289 (by decide) ?_
                              refine W.tight (c2 := zcx_5) (n2 := zsx_5) hh_53.2.2.2.2.2.1 hh_53.2.2.2.2.2.2.1 ?_
                              exact L15 Gx_5 zcx_5 zsx_5 z_55 wc_5 wr_5 m_wr_5 _ _ (hh_53.sub (L1 := [(r2, 2, 1, .int wc_5), (r2, 2, 0, .ref wr_5)]) [1, 2] rfl (M1 := []) [] rfl (I1 := [([(2, 0), (2, 1)], jOw (dC, dI) G0 2 r2 s.heap)]) [0] rfl) (hN_5) (hle_5) hg_wr_5 (⟨(by first | omega | rfl | assumption | fail), (by first | omega | rfl | assumption | fail), (by first | omega | rfl | assumption | fail), (by first | omega | rfl | assumption | fail), (by first | assumption | fail | omega), (by first | omega | rfl | assumption | fail), (by first | omega | rfl | assumption | fail), (by first | omega | rfl | assumption | fail), (by first | omega | rfl | assumption | fail)⟩) (by omega) _ (lv_sub hl [2, 3, 4, 0] rfl)
                            · skip
                              have c_52' : w0_26.toInt = 0 := jb_ne_n (rfl) ((by decide)) c_52
                              refine lv_aload_n hx hb dX7_formula_270 rfl (lv_at hl 1 rfl) ?_
                              refine lv_iconst (v := 0) hx hb dX7_formula_271 (by decide) ?_
                              refine lv_iconst (v := 0) hx hb dX7_formula_272 (by decide) ?_
                              have hsz_56 := hh_27.2.2.2.2.2.1
                              have htt_56 := hh_27.2.2.2.2.2.2.1
                              refine W.room (fun hrc_56 hrs_56 => ?_)
                              refine va_callv (A0 := jA base) (H0 := s.heap) (va_runV (As := [.int 0, .int 0]) (rest := []) ⟨hx, hb, hml, hown, hts⟩ (uX7_pushB l dC dI ca base B hB hAp hB9 hB286 Gx_5 H_27 r0 0 0) (cwV 2 hts (jgV (jWr_31 _ (List.mem_of_getElem? (i := 9) rfl)) (jWr_31 _ (List.mem_of_getElem? (i := 10) rfl)) (jWr_31 _ (List.mem_of_getElem? (i := 11) rfl)) (jWr_2 _ (List.mem_of_getElem? (i := 8) rfl)) (jWr_31 _ (List.mem_of_getElem? (i := 12) rfl))) rfl rfl rfl (by decide +kernel) ⟨by rw [← hR]; exact Nat.le_of_ble_eq_true rfl, by rw [← hR]; exact Nat.le_of_ble_eq_true rfl⟩) ⟨fun a U g mk q => by obtain ⟨q0, q1, q2, qK, q10, q11, q12⟩ := q; exact ⟨q0, q1, q2, jG.calling g mk a qK, q10, q11, q12⟩, hh_27.recv (C := RX7) (T := TX7) (N := 5) hB9 rfl (by decide) hg_6 hK, fun U hU hW => ⟨rfl, hU, hh_27.2.1, hG.step hW hU hh_27.1, hg_6, jP.nil, ⟨(by first | omega | rfl | assumption | fail), (by first | omega | rfl | assumption | fail), (by first | omega | rfl | assumption | fail), (by first | omega | rfl | assumption | fail)⟩⟩⟩ rfl rfl hl.1 rfl (lv_room (Nat.le_of_ble_eq_true rfl)) dX7_formula_273 ⟨by rw [hRc]; show _ + 0 ≤ _; omega, by rw [hRs]; show _ + 0 ≤ _; omega⟩) hh_27.1 (fun q _ h => h) (fun q h => h) (fun u_56 t_56 H_56 locs_56 ht_56 hvm_56 hr_57 hb_56 hz_56 hk_56 hS_56 => ?_)
                              rw [ht_56] at hb_56
                              obtain ⟨hb_561, hb_562, hb_563, hb_564, hb_565⟩ := hb_56
                              have hh_56 : jSt (dC, dI) B base G0 Gx_5 EX7_formula s.heap zcx_5 zsx_5 [(r0, 9, 1, .ref stack_20), (r2, 2, 1, .int wc_5), (r2, 2, 0, .ref wr_5)] [] [([(2, 0), (2, 1)], jOw (dC, dI) G0 2 r2 s.heap)] H_56 locs_56 := ((hh_27.call hb_561 hb_562 hb_563 hb_564 hS_56 rfl (L1 := [(r0, 9, 1, .ref stack_20), (r2, 2, 1, .int wc_5), (r2, 2, 0, .ref wr_5)]) [0, 2, 3] rfl rfl (M1 := []) [] rfl rfl (I1 := [([(2, 0), (2, 1)], jOw (dC, dI) G0 2 r2 s.heap)]) [0] rfl rfl).more hb_565)
                              clear hh_27 ht_56 hvm_56 hz_56 hk_56 hS_56 hb_561 hb_562 hb_563 hb_564 hb_565
                              refine lv_goto (tgt := 286) hx hb dX7_formula_276 (by decide) ?_
                              obtain ⟨z_58, ez_58⟩ : ∃ y : Int32, y = v3_5 + 1 := ⟨_, rfl⟩
                              refine lv_iinc (v := z_58) (lv' := [(3, .int z_58), (8, .int w0_27), (0, .ref r0), (1, .ref r1), (2, .ref r2), (4, .int z_22), (5, .int z_24), (6, .int z_25), (7, .int w0_26)]) hx hb dX7_formula_286 hl (k := 4) rfl (by rw [ez_58]; rfl) (by decide) rfl (fun ls hl => ?_)
                              have hz_58 : z_58.toInt = v3_5.toInt + 1 := by rw [ez_58]; exact jb_iadd2 (rfl) (by decide) (by omega)
                              refine lv_goto (tgt := 15) hx hb dX7_formula_289 (by decide) ?_
                              refine W.tight (c2 := zcx_5) (n2 := zsx_5) hh_56.2.2.2.2.2.1 hh_56.2.2.2.2.2.2.1 ?_
                              exact L15 Gx_5 zcx_5 zsx_5 z_58 wc_5 wr_5 m_wr_5 _ _ (hh_56.sub (L1 := [(r2, 2, 1, .int wc_5), (r2, 2, 0, .ref wr_5)]) [1, 2] rfl (M1 := []) [] rfl (I1 := [([(2, 0), (2, 1)], jOw (dC, dI) G0 2 r2 s.heap)]) [0] rfl) (hN_5) (hle_5) hg_wr_5 (⟨(by first | omega | rfl | assumption | fail), (by first | omega | rfl | assumption | fail), (by first | omega | rfl | assumption | fail), (by first | omega | rfl | assumption | fail), (by first | assumption | fail | omega), (by first | omega | rfl | assumption | fail), (by first | omega | rfl | assumption | fail), (by first | omega | rfl | assumption | fail), (by first | omega | rfl | assumption | fail)⟩) (by omega) _ (lv_sub hl [2, 3, 4, 0] rfl)
                          · skip
                            have c_51' : w0_26.toInt ≤ 4 := jb_gt_n (rfl) ((by decide)) c_51
                            refine lv_aload_n hx hb dX7_formula_250 rfl (lv_at hl 1 rfl) ?_
                            refine lv_aload_n hx hb dX7_formula_251 rfl (lv_at hl 2 rfl) ?_
                            refine lv_iload hx hb dX7_formula_252 (lv_at hl 7 rfl) ?_
                            refine lv_iload hx hb dX7_formula_254 (lv_at hl 6 rfl) ?_
                            refine lv_iload hx hb dX7_formula_256 (lv_at hl 7 rfl) ?_
                            refine lv_isub hx hb dX7_formula_258 ?_
                            refine lv_topi (fun z_59 ez_59 => ?_)
                            have hz_59 : z_59.toInt = z_24.toInt - z_25.toInt := by rw [ez_59]; exact jb_isub2 (rfl) (rfl) (by omega)
                            have hsz_60 := hh_27.2.2.2.2.2.1
                            have htt_60 := hh_27.2.2.2.2.2.2.1
                            refine W.room (fun hrc_60 hrs_60 => ?_)
                            refine va_callv (A0 := jA base) (H0 := s.heap) (va_runV (As := [.ref r1, .int z_25, .int z_59]) (rest := []) ⟨hx, hb, hml, hown, hts⟩ (uX7_pushJoinedB l dC dI ca base B hB hAp hB9 hB180 hB286 Gx_5 H_27 r0 r1 z_25 z_59 n1) (cwV 3 hts (jgV (jWr_32 _ (List.mem_of_getElem? (i := 12) rfl)) (jWr_32 _ (List.mem_of_getElem? (i := 13) rfl)) (jWr_32 _ (List.mem_of_getElem? (i := 14) rfl)) (jWr_2 _ (List.mem_of_getElem? (i := 8) rfl)) (jWr_32 _ (List.mem_of_getElem? (i := 15) rfl))) rfl rfl rfl (by decide +kernel) ⟨by rw [← hR]; exact Nat.le_of_ble_eq_true rfl, by rw [← hR]; exact Nat.le_of_ble_eq_true rfl⟩) ⟨fun a U g mk q => by obtain ⟨q0, q1, q2, qK, q10, q11, q12, q13⟩ := q; exact ⟨q0, q1, q2, jG.calling g mk a qK, q10, q11, q12, q13⟩, hh_27.recv (C := RX7) (T := TX7) (N := 5) hB9 rfl (by decide) hg_6 hK, fun U hU hW => ⟨rfl, hU, hh_27.2.1, hG.step hW hU hh_27.1, hg_7, hg_6, jP.nil, ⟨(by first | omega | rfl | assumption | fail), (by first | omega | rfl | assumption | fail), (by first | omega | rfl | assumption | fail), (by first | omega | rfl | assumption | fail), (by first | omega | rfl | assumption | fail)⟩⟩⟩ rfl rfl hl.1 rfl (lv_room (Nat.le_of_ble_eq_true rfl)) dX7_formula_259 ⟨by rw [hRc]; show _ + 0 ≤ _; omega, by rw [hRs]; show _ + 0 ≤ _; omega⟩) hh_27.1 (fun q _ h => h) (fun q h => h) (fun u_60 t_60 H_60 locs_60 ht_60 hvm_60 hr_61 hb_60 hz_60 hk_60 hS_60 => ?_)
                            rw [ht_60] at hb_60
                            obtain ⟨hb_601, hb_602, hb_603, hb_604, hb_605⟩ := hb_60
                            have hh_60 : jSt (dC, dI) B base G0 Gx_5 EX7_formula s.heap zcx_5 zsx_5 [(r0, 9, 1, .ref stack_20), (r2, 2, 1, .int wc_5), (r2, 2, 0, .ref wr_5)] [] [([(2, 0), (2, 1)], jOw (dC, dI) G0 2 r2 s.heap)] H_60 locs_60 := ((hh_27.call hb_601 hb_602 hb_603 hb_604 hS_60 rfl (L1 := [(r0, 9, 1, .ref stack_20), (r2, 2, 1, .int wc_5), (r2, 2, 0, .ref wr_5)]) [0, 2, 3] rfl rfl (M1 := []) [] rfl rfl (I1 := [([(2, 0), (2, 1)], jOw (dC, dI) G0 2 r2 s.heap)]) [0] rfl rfl).more hb_605)
                            clear hh_27 ht_60 hvm_60 hz_60 hk_60 hS_60 hb_601 hb_602 hb_603 hb_604 hb_605
                            refine lv_goto (tgt := 286) hx hb dX7_formula_262 (by decide) ?_
                            obtain ⟨z_62, ez_62⟩ : ∃ y : Int32, y = v3_5 + 1 := ⟨_, rfl⟩
                            refine lv_iinc (v := z_62) (lv' := [(3, .int z_62), (8, .int w0_27), (0, .ref r0), (1, .ref r1), (2, .ref r2), (4, .int z_22), (5, .int z_24), (6, .int z_25), (7, .int w0_26)]) hx hb dX7_formula_286 hl (k := 4) rfl (by rw [ez_62]; rfl) (by decide) rfl (fun ls hl => ?_)
                            have hz_62 : z_62.toInt = v3_5.toInt + 1 := by rw [ez_62]; exact jb_iadd2 (rfl) (by decide) (by omega)
                            refine lv_goto (tgt := 15) hx hb dX7_formula_289 (by decide) ?_
                            refine W.tight (c2 := zcx_5) (n2 := zsx_5) hh_60.2.2.2.2.2.1 hh_60.2.2.2.2.2.2.1 ?_
                            exact L15 Gx_5 zcx_5 zsx_5 z_62 wc_5 wr_5 m_wr_5 _ _ (hh_60.sub (L1 := [(r2, 2, 1, .int wc_5), (r2, 2, 0, .ref wr_5)]) [1, 2] rfl (M1 := []) [] rfl (I1 := [([(2, 0), (2, 1)], jOw (dC, dI) G0 2 r2 s.heap)]) [0] rfl) (hN_5) (hle_5) hg_wr_5 (⟨(by first | omega | rfl | assumption | fail), (by first | omega | rfl | assumption | fail), (by first | omega | rfl | assumption | fail), (by first | omega | rfl | assumption | fail), (by first | assumption | fail | omega), (by first | omega | rfl | assumption | fail), (by first | omega | rfl | assumption | fail), (by first | omega | rfl | assumption | fail), (by first | omega | rfl | assumption | fail)⟩) (by omega) _ (lv_sub hl [2, 3, 4, 0] rfl)
                      · skip
                        have c_42' : w0_27.toInt ≠ 0 := jb_eq_n (rfl) ((by decide)) c_42
                        exact (by omega : False).elim
                    · skip
                      have c_41' : w0_27.toInt ≠ 0 := jb_eq_n (rfl) ((by decide)) c_41
                      refine lv_iload hx hb dX7_formula_177 (lv_at hl 6 rfl) ?_
                      refine lv_sipush (v := 256) hx hb dX7_formula_179 (by decide) ?_
                      refine lv_iand hx hb dX7_formula_182 ?_
                      refine lv_topi (fun z_63 ez_63 => ?_)
                      refine lv_if_ne (tgt := 218) hx hb dX7_formula_183 (by decide) (fun c_64 => ?_) (fun c_64 => ?_)
                      · skip
                        have c_64' : z_63.toInt ≠ 0 := jb_ne (rfl) ((by decide)) c_64
                        refine lv_iload hx hb dX7_formula_218 (lv_at hl 0 rfl) ?_
                        refine lv_if_eq (tgt := 238) hx hb dX7_formula_220 (by decide) (fun c_65 => ?_) (fun c_65 => ?_)
                        · skip
                          have c_65' : w0_27.toInt = 0 := jb_eq (rfl) ((by decide)) c_65
                          exact (by omega : False).elim
                        · skip
                          have c_65' : w0_27.toInt ≠ 0 := jb_eq_n (rfl) ((by decide)) c_65
                          refine lv_aload_n hx hb dX7_formula_223 rfl (lv_at hl 1 rfl) ?_
                          refine lv_aload_n hx hb dX7_formula_224 rfl (lv_at hl 2 rfl) ?_
                          refine lv_iload hx hb dX7_formula_225 (lv_at hl 7 rfl) ?_
                          refine lv_iload hx hb dX7_formula_227 (lv_at hl 6 rfl) ?_
                          refine lv_bipush (v := 10) hx hb dX7_formula_229 (by decide) ?_
                          refine lv_ishr hx hb dX7_formula_231 ?_
                          refine lv_topi (fun z_66 ez_66 => ?_)
                          have hz_66 : z_66.toInt = z_24.toInt / 2 ^ 10 := by rw [ez_66]; exact jb_ishr 10 (rfl) (by decide)
                          have hsz_67 := hh_27.2.2.2.2.2.1
                          have htt_67 := hh_27.2.2.2.2.2.2.1
                          refine W.room (fun hrc_67 hrs_67 => ?_)
                          refine va_callv (A0 := jA base) (H0 := s.heap) (va_runV (As := [.ref r1, .int z_25, .int z_66]) (rest := []) ⟨hx, hb, hml, hown, hts⟩ (uX7_pushQuantifiedB l dC dI ca base B hB hAp hB8 hB9 hB102 hB132 hB180 hB286 hB287 hB288 Gx_5 H_27 r0 r1 z_25 z_66 n1) (cwV 3 hts (jgV (jWr_31 _ (List.mem_of_getElem? (i := 23) rfl)) (jWr_32 _ (List.mem_of_getElem? (i := 0) rfl)) (jWr_32 _ (List.mem_of_getElem? (i := 1) rfl)) (jWr_2 _ (List.mem_of_getElem? (i := 8) rfl)) (jWr_32 _ (List.mem_of_getElem? (i := 2) rfl))) rfl rfl rfl (by decide +kernel) ⟨by rw [← hR]; exact Nat.le_of_ble_eq_true rfl, by rw [← hR]; exact Nat.le_of_ble_eq_true rfl⟩) ⟨fun a U g mk q => by obtain ⟨q0, q1, q2, qK, q10, q11, q12, q13⟩ := q; exact ⟨q0, q1, q2, jG.calling g mk a qK, q10, q11, q12, q13⟩, hh_27.recv (C := RX7) (T := TX7) (N := 5) hB9 rfl (by decide) hg_6 hK, fun U hU hW => ⟨rfl, hU, hh_27.2.1, hG.step hW hU hh_27.1, hg_7, hg_6, jP.nil, ⟨(by first | omega | rfl | assumption | fail), (by first | omega | rfl | assumption | fail), (by first | omega | rfl | assumption | fail), (by first | omega | rfl | assumption | fail)⟩⟩⟩ rfl rfl hl.1 rfl (lv_room (Nat.le_of_ble_eq_true rfl)) dX7_formula_232 ⟨by rw [hRc]; show _ + 0 ≤ _; omega, by rw [hRs]; show _ + 0 ≤ _; omega⟩) hh_27.1 (fun q _ h => h) (fun q h => h) (fun u_67 t_67 H_67 locs_67 ht_67 hvm_67 hr_68 hb_67 hz_67 hk_67 hS_67 => ?_)
                          rw [ht_67] at hb_67
                          obtain ⟨hb_671, hb_672, hb_673, hb_674, hb_675⟩ := hb_67
                          have hh_67 : jSt (dC, dI) B base G0 Gx_5 EX7_formula s.heap zcx_5 zsx_5 [(r0, 9, 1, .ref stack_20), (r2, 2, 1, .int wc_5), (r2, 2, 0, .ref wr_5)] [] [([(2, 0), (2, 1)], jOw (dC, dI) G0 2 r2 s.heap)] H_67 locs_67 := ((hh_27.call hb_671 hb_672 hb_673 hb_674 hS_67 rfl (L1 := [(r0, 9, 1, .ref stack_20), (r2, 2, 1, .int wc_5), (r2, 2, 0, .ref wr_5)]) [0, 2, 3] rfl rfl (M1 := []) [] rfl rfl (I1 := [([(2, 0), (2, 1)], jOw (dC, dI) G0 2 r2 s.heap)]) [0] rfl rfl).more hb_675)
                          clear hh_27 ht_67 hvm_67 hz_67 hk_67 hS_67 hb_671 hb_672 hb_673 hb_674 hb_675
                          refine lv_goto (tgt := 286) hx hb dX7_formula_235 (by decide) ?_
                          obtain ⟨z_69, ez_69⟩ : ∃ y : Int32, y = v3_5 + 1 := ⟨_, rfl⟩
                          refine lv_iinc (v := z_69) (lv' := [(3, .int z_69), (8, .int w0_27), (0, .ref r0), (1, .ref r1), (2, .ref r2), (4, .int z_22), (5, .int z_24), (6, .int z_25), (7, .int w0_26)]) hx hb dX7_formula_286 hl (k := 4) rfl (by rw [ez_69]; rfl) (by decide) rfl (fun ls hl => ?_)
                          have hz_69 : z_69.toInt = v3_5.toInt + 1 := by rw [ez_69]; exact jb_iadd2 (rfl) (by decide) (by omega)
                          refine lv_goto (tgt := 15) hx hb dX7_formula_289 (by decide) ?_
                          refine W.tight (c2 := zcx_5) (n2 := zsx_5) hh_67.2.2.2.2.2.1 hh_67.2.2.2.2.2.2.1 ?_
                          exact L15 Gx_5 zcx_5 zsx_5 z_69 wc_5 wr_5 m_wr_5 _ _ (hh_67.sub (L1 := [(r2, 2, 1, .int wc_5), (r2, 2, 0, .ref wr_5)]) [1, 2] rfl (M1 := []) [] rfl (I1 := [([(2, 0), (2, 1)], jOw (dC, dI) G0 2 r2 s.heap)]) [0] rfl) (hN_5) (hle_5) hg_wr_5 (⟨(by first | omega | rfl | assumption | fail), (by first | omega | rfl | assumption | fail), (by first | omega | rfl | assumption | fail), (by first | omega | rfl | assumption | fail), (by first | assumption | fail | omega), (by first | omega | rfl | assumption | fail), (by first | omega | rfl | assumption | fail), (by first | omega | rfl | assumption | fail), (by first | omega | rfl | assumption | fail)⟩) (by omega) _ (lv_sub hl [2, 3, 4, 0] rfl)
                      · skip
                        have c_64' : z_63.toInt = 0 := jb_ne_n (rfl) ((by decide)) c_64
                        refine lv_aload_n hx hb dX7_formula_186 rfl (lv_at hl 1 rfl) ?_
                        refine lv_iconst (v := 0) hx hb dX7_formula_187 (by decide) ?_
                        refine lv_bipush (v := 16) hx hb dX7_formula_188 (by decide) ?_
                        have hsz_70 := hh_27.2.2.2.2.2.1
                        have htt_70 := hh_27.2.2.2.2.2.2.1
                        refine W.room (fun hrc_70 hrs_70 => ?_)
                        refine va_callv (A0 := jA base) (H0 := s.heap) (va_runV (As := [.int 0, .int 16]) (rest := []) ⟨hx, hb, hml, hown, hts⟩ (uX7_pushB l dC dI ca base B hB hAp hB9 hB286 Gx_5 H_27 r0 0 16) (cwV 2 hts (jgV (jWr_31 _ (List.mem_of_getElem? (i := 9) rfl)) (jWr_31 _ (List.mem_of_getElem? (i := 10) rfl)) (jWr_31 _ (List.mem_of_getElem? (i := 11) rfl)) (jWr_2 _ (List.mem_of_getElem? (i := 8) rfl)) (jWr_31 _ (List.mem_of_getElem? (i := 12) rfl))) rfl rfl rfl (by decide +kernel) ⟨by rw [← hR]; exact Nat.le_of_ble_eq_true rfl, by rw [← hR]; exact Nat.le_of_ble_eq_true rfl⟩) ⟨fun a U g mk q => by obtain ⟨q0, q1, q2, qK, q10, q11, q12⟩ := q; exact ⟨q0, q1, q2, jG.calling g mk a qK, q10, q11, q12⟩, hh_27.recv (C := RX7) (T := TX7) (N := 5) hB9 rfl (by decide) hg_6 hK, fun U hU hW => ⟨rfl, hU, hh_27.2.1, hG.step hW hU hh_27.1, hg_6, jP.nil, ⟨(by first | omega | rfl | assumption | fail), (by first | omega | rfl | assumption | fail), (by first | omega | rfl | assumption | fail), (by first | omega | rfl | assumption | fail)⟩⟩⟩ rfl rfl hl.1 rfl (lv_room (Nat.le_of_ble_eq_true rfl)) dX7_formula_190 ⟨by rw [hRc]; show _ + 0 ≤ _; omega, by rw [hRs]; show _ + 0 ≤ _; omega⟩) hh_27.1 (fun q _ h => h) (fun q h => h) (fun u_70 t_70 H_70 locs_70 ht_70 hvm_70 hr_71 hb_70 hz_70 hk_70 hS_70 => ?_)
                        rw [ht_70] at hb_70
                        obtain ⟨hb_701, hb_702, hb_703, hb_704, hb_705⟩ := hb_70
                        have hh_70 : jSt (dC, dI) B base G0 Gx_5 EX7_formula s.heap zcx_5 zsx_5 [(r0, 9, 1, .ref stack_20), (r2, 2, 1, .int wc_5), (r2, 2, 0, .ref wr_5)] [] [([(2, 0), (2, 1)], jOw (dC, dI) G0 2 r2 s.heap)] H_70 locs_70 := ((hh_27.call hb_701 hb_702 hb_703 hb_704 hS_70 rfl (L1 := [(r0, 9, 1, .ref stack_20), (r2, 2, 1, .int wc_5), (r2, 2, 0, .ref wr_5)]) [0, 2, 3] rfl rfl (M1 := []) [] rfl rfl (I1 := [([(2, 0), (2, 1)], jOw (dC, dI) G0 2 r2 s.heap)]) [0] rfl rfl).more hb_705)
                        clear hh_27 ht_70 hvm_70 hz_70 hk_70 hS_70 hb_701 hb_702 hb_703 hb_704 hb_705
                        refine lv_aload_n hx hb dX7_formula_193 rfl (lv_at hl 1 rfl) ?_
                        refine lv_iconst (v := 2) hx hb dX7_formula_194 (by decide) ?_
                        refine lv_iload hx hb dX7_formula_195 (lv_at hl 6 rfl) ?_
                        refine lv_sipush (v := (-513)) hx hb dX7_formula_197 (by decide) ?_
                        refine lv_iand hx hb dX7_formula_200 ?_
                        refine lv_topi (fun z_72 ez_72 => ?_)
                        have hbz_72 := jb_and0 ez_72 (by omega)
                        refine lv_sipush (v := 256) hx hb dX7_formula_201 (by decide) ?_
                        refine lv_ior hx hb dX7_formula_204 ?_
                        refine lv_topi (fun z_73 ez_73 => ?_)
                        have hbz_73 := jb_or29 ez_73 (by omega) (by omega) (by omega) (by omega)
                        have hsz_74 := hh_70.2.2.2.2.2.1
                        have htt_74 := hh_70.2.2.2.2.2.2.1
                        refine W.room (fun hrc_74 hrs_74 => ?_)
                        refine va_callv (A0 := jA base) (H0 := s.heap) (va_runV (As := [.int 2, .int z_73]) (rest := []) ⟨hx, hb, hml, hown, hts⟩ (uX7_pushB l dC dI ca base B hB hAp hB9 hB286 Gx_5 H_70 r0 2 z_73) (cwV 2 hts (jgV (jWr_31 _ (List.mem_of_getElem? (i := 9) rfl)) (jWr_31 _ (List.mem_of_getElem? (i := 10) rfl)) (jWr_31 _ (List.mem_of_getElem? (i := 11) rfl)) (jWr_2 _ (List.mem_of_getElem? (i := 8) rfl)) (jWr_31 _ (List.mem_of_getElem? (i := 12) rfl))) rfl rfl rfl (by decide +kernel) ⟨by rw [← hR]; exact Nat.le_of_ble_eq_true rfl, by rw [← hR]; exact Nat.le_of_ble_eq_true rfl⟩) ⟨fun a U g mk q => by obtain ⟨q0, q1, q2, qK, q10, q11, q12⟩ := q; exact ⟨q0, q1, q2, jG.calling g mk a qK, q10, q11, q12⟩, hh_70.recv (C := RX7) (T := TX7) (N := 5) hB9 rfl (by decide) hg_6 hK, fun U hU hW => ⟨rfl, hU, hh_70.2.1, hG.step hW hU hh_70.1, hg_6, jP.nil, ⟨(by first | omega | rfl | assumption | fail), (by first | omega | rfl | assumption | fail), (by first | omega | rfl | assumption | fail), (by first | omega | rfl | assumption | fail)⟩⟩⟩ rfl rfl hl.1 rfl (lv_room (Nat.le_of_ble_eq_true rfl)) dX7_formula_205 ⟨by rw [hRc]; show _ + 0 ≤ _; omega, by rw [hRs]; show _ + 0 ≤ _; omega⟩) hh_70.1 (fun q _ h => h) (fun q h => h) (fun u_74 t_74 H_74 locs_74 ht_74 hvm_74 hr_75 hb_74 hz_74 hk_74 hS_74 => ?_)
                        rw [ht_74] at hb_74
                        obtain ⟨hb_741, hb_742, hb_743, hb_744, hb_745⟩ := hb_74
                        have hh_74 : jSt (dC, dI) B base G0 Gx_5 EX7_formula s.heap zcx_5 zsx_5 [(r0, 9, 1, .ref stack_20), (r2, 2, 1, .int wc_5), (r2, 2, 0, .ref wr_5)] [] [([(2, 0), (2, 1)], jOw (dC, dI) G0 2 r2 s.heap)] H_74 locs_74 := ((hh_70.call hb_741 hb_742 hb_743 hb_744 hS_74 rfl (L1 := [(r0, 9, 1, .ref stack_20), (r2, 2, 1, .int wc_5), (r2, 2, 0, .ref wr_5)]) [0, 1, 2] rfl rfl (M1 := []) [] rfl rfl (I1 := [([(2, 0), (2, 1)], jOw (dC, dI) G0 2 r2 s.heap)]) [0] rfl rfl).more hb_745)
                        clear hh_70 ht_74 hvm_74 hz_74 hk_74 hS_74 hb_741 hb_742 hb_743 hb_744 hb_745
                        refine lv_aload_n hx hb dX7_formula_208 rfl (lv_at hl 1 rfl) ?_
                        refine lv_iconst (v := 0) hx hb dX7_formula_209 (by decide) ?_
                        refine lv_bipush (v := 17) hx hb dX7_formula_210 (by decide) ?_
                        have hsz_76 := hh_74.2.2.2.2.2.1
                        have htt_76 := hh_74.2.2.2.2.2.2.1
                        refine W.room (fun hrc_76 hrs_76 => ?_)
                        refine va_callv (A0 := jA base) (H0 := s.heap) (va_runV (As := [.int 0, .int 17]) (rest := []) ⟨hx, hb, hml, hown, hts⟩ (uX7_pushB l dC dI ca base B hB hAp hB9 hB286 Gx_5 H_74 r0 0 17) (cwV 2 hts (jgV (jWr_31 _ (List.mem_of_getElem? (i := 9) rfl)) (jWr_31 _ (List.mem_of_getElem? (i := 10) rfl)) (jWr_31 _ (List.mem_of_getElem? (i := 11) rfl)) (jWr_2 _ (List.mem_of_getElem? (i := 8) rfl)) (jWr_31 _ (List.mem_of_getElem? (i := 12) rfl))) rfl rfl rfl (by decide +kernel) ⟨by rw [← hR]; exact Nat.le_of_ble_eq_true rfl, by rw [← hR]; exact Nat.le_of_ble_eq_true rfl⟩) ⟨fun a U g mk q => by obtain ⟨q0, q1, q2, qK, q10, q11, q12⟩ := q; exact ⟨q0, q1, q2, jG.calling g mk a qK, q10, q11, q12⟩, hh_74.recv (C := RX7) (T := TX7) (N := 5) hB9 rfl (by decide) hg_6 hK, fun U hU hW => ⟨rfl, hU, hh_74.2.1, hG.step hW hU hh_74.1, hg_6, jP.nil, ⟨(by first | omega | rfl | assumption | fail), (by first | omega | rfl | assumption | fail), (by first | omega | rfl | assumption | fail), (by first | omega | rfl | assumption | fail)⟩⟩⟩ rfl rfl hl.1 rfl (lv_room (Nat.le_of_ble_eq_true rfl)) dX7_formula_212 ⟨by rw [hRc]; show _ + 0 ≤ _; omega, by rw [hRs]; show _ + 0 ≤ _; omega⟩) hh_74.1 (fun q _ h => h) (fun q h => h) (fun u_76 t_76 H_76 locs_76 ht_76 hvm_76 hr_77 hb_76 hz_76 hk_76 hS_76 => ?_)
                        rw [ht_76] at hb_76
                        obtain ⟨hb_761, hb_762, hb_763, hb_764, hb_765⟩ := hb_76
                        have hh_76 : jSt (dC, dI) B base G0 Gx_5 EX7_formula s.heap zcx_5 zsx_5 [(r0, 9, 1, .ref stack_20), (r2, 2, 1, .int wc_5), (r2, 2, 0, .ref wr_5)] [] [([(2, 0), (2, 1)], jOw (dC, dI) G0 2 r2 s.heap)] H_76 locs_76 := ((hh_74.call hb_761 hb_762 hb_763 hb_764 hS_76 rfl (L1 := [(r0, 9, 1, .ref stack_20), (r2, 2, 1, .int wc_5), (r2, 2, 0, .ref wr_5)]) [0, 1, 2] rfl rfl (M1 := []) [] rfl rfl (I1 := [([(2, 0), (2, 1)], jOw (dC, dI) G0 2 r2 s.heap)]) [0] rfl rfl).more hb_765)
                        clear hh_74 ht_76 hvm_76 hz_76 hk_76 hS_76 hb_761 hb_762 hb_763 hb_764 hb_765
                        refine lv_goto (tgt := 286) hx hb dX7_formula_215 (by decide) ?_
                        obtain ⟨z_78, ez_78⟩ : ∃ y : Int32, y = v3_5 + 1 := ⟨_, rfl⟩
                        refine lv_iinc (v := z_78) (lv' := [(3, .int z_78), (8, .int w0_27), (0, .ref r0), (1, .ref r1), (2, .ref r2), (4, .int z_22), (5, .int z_24), (6, .int z_25), (7, .int w0_26)]) hx hb dX7_formula_286 hl (k := 4) rfl (by rw [ez_78]; rfl) (by decide) rfl (fun ls hl => ?_)
                        have hz_78 : z_78.toInt = v3_5.toInt + 1 := by rw [ez_78]; exact jb_iadd2 (rfl) (by decide) (by omega)
                        refine lv_goto (tgt := 15) hx hb dX7_formula_289 (by decide) ?_
                        refine W.tight (c2 := zcx_5) (n2 := zsx_5) hh_76.2.2.2.2.2.1 hh_76.2.2.2.2.2.2.1 ?_
                        exact L15 Gx_5 zcx_5 zsx_5 z_78 wc_5 wr_5 m_wr_5 _ _ (hh_76.sub (L1 := [(r2, 2, 1, .int wc_5), (r2, 2, 0, .ref wr_5)]) [1, 2] rfl (M1 := []) [] rfl (I1 := [([(2, 0), (2, 1)], jOw (dC, dI) G0 2 r2 s.heap)]) [0] rfl) (hN_5) (hle_5) hg_wr_5 (⟨(by first | omega | rfl | assumption | fail), (by first | omega | rfl | assumption | fail), (by first | omega | rfl | assumption | fail), (by first | omega | rfl | assumption | fail), (by first | assumption | fail | omega), (by first | omega | rfl | assumption | fail), (by first | omega | rfl | assumption | fail), (by first | omega | rfl | assumption | fail), (by first | omega | rfl | assumption | fail)⟩) (by omega) _ (lv_sub hl [2, 3, 4, 0] rfl)
                · skip
                  have c_29' : z_22.toInt = 1 := jb_ne_n (rfl) ((by decide)) c_29
                  refine lv_aload_n hx hb dX7_formula_142 rfl (lv_at hl 1 rfl) ?_
                  obtain ⟨v_79, hv_79, hh_80⟩ := hh_27.pin (C := RX7) (T := TX7) (N := 5) hB9 rfl (by decide) hg_6 (i := 0) (by decide) rfl
                  clear hh_27
                  obtain ⟨names_81, rfl, hg_names_81⟩ := hv_79
                  refine j7_read hx hb hown hK (C := RX7) (T := TX7) (N := 5) rfl hly_9_0 hlk_21 (hh_80.at 0 rfl) dX7_formula_143 ?_
                  refine lv_iload hx hb dX7_formula_146 (lv_at hl 6 rfl) ?_
                  refine lv_ldc hx hb hown hcs_114 dX7_formula_148 ?_
                  refine lv_iand hx hb dX7_formula_150 ?_
                  refine lv_topi (fun z_82 ez_82 => ?_)
                  have hz_82 : 0 ≤ z_82.toInt ∧ z_82.toInt ≤ 131071 := by rw [ez_82]; exact jb_and z_24 (m := 131071) (k := 17) (by decide) (by decide)
                  refine lv_iload hx hb dX7_formula_151 (lv_at hl 6 rfl) ?_
                  refine lv_bipush (v := 17) hx hb dX7_formula_153 (by decide) ?_
                  refine lv_ishr hx hb dX7_formula_155 ?_
                  refine lv_topi (fun z_83 ez_83 => ?_)
                  have hz_83 : z_83.toInt = z_24.toInt / 2 ^ 17 := by rw [ez_83]; exact jb_ishr 17 (rfl) (by decide)
                  refine lv_aload_n hx hb dX7_formula_156 rfl (lv_at hl 3 rfl) ?_
                  have hsz_84 := hh_80.2.2.2.2.2.1
                  have htt_84 := hh_80.2.2.2.2.2.2.1
                  refine W.room (fun hrc_84 hrs_84 => ?_)
                  refine va_callv (A0 := jA base) (H0 := s.heap) (va_runV (As := [.int z_82, .int z_83, .ref r2]) (rest := []) ⟨hx, hb, hml, hown, hts⟩ (uX6_write l dC dI ca base B hB hAp hB2 hB8 hB102 hB132 hB196 Gx_5 H_27 names_81 z_82 z_83 r2 wc_5 wr_5 m_wr_5 LC LS) (cwV 3 hts (jgV (jWr_31 _ (List.mem_of_getElem? (i := 17) rfl)) (jWr_31 _ (List.mem_of_getElem? (i := 18) rfl)) (jWr_31 _ (List.mem_of_getElem? (i := 19) rfl)) (jWr_4 _ (List.mem_of_getElem? (i := 10) rfl)) (jWr_31 _ (List.mem_of_getElem? (i := 20) rfl))) rfl rfl rfl (by decide +kernel) ⟨by rw [← hR]; exact Nat.le_of_ble_eq_true rfl, by rw [← hR]; exact Nat.le_of_ble_eq_true rfl⟩) ⟨fun a U g mk q => by obtain ⟨q0, q1, q2, qK, q10, q11, q12, q13, q14⟩ := q; exact ⟨q0, q1, q2, jG.calling g mk a qK, q10, q11, q12, q13, q14⟩, hh_80.recv (C := RX6) (T := TX6) (N := 4) hB8 rfl (by decide) hg_names_81 hK, fun U hU hW => ⟨rfl, hU, hh_80.2.1, hG.step hW hU hh_80.1, hg_8, hg_names_81, hg_wr_5, (hh_80.2.2.1.sub (L1 := [(r2, 2, 1, .int wc_5), (r2, 2, 0, .ref wr_5)]) [3, 4] rfl), (by omega), (by omega), ⟨(by first | omega | rfl | assumption | fail), (by first | omega | rfl | assumption | fail), (by first | omega | rfl | assumption | fail), (by first | omega | rfl | assumption | fail), (by first | assumption | fail | omega)⟩⟩⟩ rfl rfl hl.1 rfl (lv_room (Nat.le_of_ble_eq_true rfl)) dX7_formula_157 ⟨by rw [hRc]; omega, by rw [hRs]; omega⟩) hh_80.1 (fun q _ h => h) (fun q h => h) (fun u_84 t_84 H_84 locs_84 ht_84 hvm_84 hr_85 hb_84 hz_84 hk_84 hS_84 => ?_)
                  obtain ⟨qc_84, qa_84, m_qa_84, G_84⟩ := u_84
                  rw [ht_84] at hb_84
                  simp only at hb_84
                  obtain ⟨⟨hb_841, hb_842, hb_843, hb_844, hb_845, hb_846⟩, hgq_84_0, hN_84, hbO_84⟩ := hb_84
                  have hh_84 : jSt (dC, dI) B base G0 G_84 EX7_formula s.heap (zcx_5 + ((m_qa_84 - m_wr_5) / 16)) (zsx_5 + (2 * (m_qa_84 - m_wr_5))) [(r2, 2, 1, .int qc_84), (r2, 2, 0, .ref qa_84), (r0, 9, 0, .ref names_81), (r0, 9, 1, .ref stack_20), (r0, 9, 2, .int z_16)] [] [] H_84 locs_84 := (hh_80.callG hb_841 hb_842 hb_843 hb_844 hb_845 hS_84 rfl (L1 := [(r0, 9, 0, .ref names_81), (r0, 9, 1, .ref stack_20), (r0, 9, 2, .int z_16)]) [0, 1, 2] rfl rfl (M1 := []) [] rfl rfl (I1 := []) [] rfl rfl).more hb_846
                  have hNn_84 : (jNk [0, 1, 2, 3, 4, 5, 6, 7, 8, 9, 10, 11, 12, 13, 14, 15, 16]) G0 G_84 := (hN_5).tr hN_84
                  have hg_86 := hb_842 _ _ hg_6
                  have hg_87 := hb_842 _ _ hg_7
                  have hg_88 := hb_842 _ _ hg_8
                  have hg_89 := hb_842 _ _ hg_names_81
                  have hg_90 := hb_842 _ _ hg_stack_20
                  have hd_91 := jOw.tr (hh_80.iv 0 rfl) hh_80.2.2.2.2.1 hbO_84
                  have hh_92 := hh_84.addI (jOw.ie (dC := dC) (dI := dI) (G0 := G0) (k := 2) (r := r2) (H0 := s.heap) (F := [(2, 0), (2, 1)]) (C := RX0) (T := TX0) (N := 2) rfl (by decide) hh_84.2.2.2.2.1 (hd_91))
                  clear hh_84
                  try simp only at hr_85
                  obtain ⟨hr_85_0, hr_85_1, hr_85_2, hr_85_3, hr_85_4⟩ := hr_85
                  have hh_93 := hh_92.wk (zc1 := (m_qa_84 - n_pa) / 16) (zs1 := 2 * (m_qa_84 - n_pa)) (by omega) (by omega)
                  clear hh_92
                  try clear hsz_84 htt_84 hrc_84 hrs_84
                  try clear hb_844 hb_845
                  refine lv_goto (tgt := 286) hx hb dX7_formula_160 (by decide) ?_
                  obtain ⟨z_94, ez_94⟩ : ∃ y : Int32, y = v3_5 + 1 := ⟨_, rfl⟩
                  refine lv_iinc (v := z_94) (lv' := [(3, .int z_94), (8, .int w0_27), (0, .ref r0), (1, .ref r1), (2, .ref r2), (4, .int z_22), (5, .int z_24), (6, .int z_25), (7, .int w0_26)]) hx hb dX7_formula_286 hl (k := 4) rfl (by rw [ez_94]; rfl) (by decide) rfl (fun ls hl => ?_)
                  have hz_94 : z_94.toInt = v3_5.toInt + 1 := by rw [ez_94]; exact jb_iadd2 (rfl) (by decide) (by omega)
                  refine lv_goto (tgt := 15) hx hb dX7_formula_289 (by decide) ?_
                  refine W.tight (c2 := ((m_qa_84 - n_pa) / 16)) (n2 := (2 * (m_qa_84 - n_pa))) hh_93.2.2.2.2.2.1 hh_93.2.2.2.2.2.2.1 ?_
                  exact L15 G_84 ((m_qa_84 - n_pa) / 16) (2 * (m_qa_84 - n_pa)) z_94 qc_84 qa_84 m_qa_84 _ _ (hh_93.sub (L1 := [(r2, 2, 1, .int qc_84), (r2, 2, 0, .ref qa_84)]) [0, 1] rfl (M1 := []) [] rfl (I1 := [([(2, 0), (2, 1)], jOw (dC, dI) G0 2 r2 s.heap)]) [0] rfl) (hNn_84) ((hle_5).tr hb_842) hgq_84_0 (⟨(by first | omega | rfl | assumption | fail), (by first | omega | rfl | assumption | fail), (by first | omega | rfl | assumption | fail), (by first | omega | rfl | assumption | fail), (by first | assumption | fail | omega), (by first | omega | rfl | assumption | fail), (by first | omega | rfl | assumption | fail), (by first | omega | rfl | assumption | fail), (by first | omega | rfl | assumption | fail)⟩) (by omega) _ (lv_sub hl [2, 3, 4, 0] rfl)
              · skip
                have c_28' : z_22.toInt = 0 := jb_ne_n (rfl) ((by decide)) c_28
                refine lv_aload_n hx hb dX7_formula_124 rfl (lv_at hl 3 rfl) ?_
                refine lv_iload hx hb dX7_formula_125 (lv_at hl 6 rfl) ?_
                have hsz_95 := hh_27.2.2.2.2.2.1
                have htt_95 := hh_27.2.2.2.2.2.2.1
                refine W.room (fun hrc_95 hrs_95 => ?_)
                refine j_callx (A0 := jA base) (H0 := s.heap) (va_runS (As := [.int z_24]) (rest := [.ref r2]) ⟨hx, hb, hml, hown, hts⟩ (uX7_signText l dC dI ca base B hB hAp Gx_5 H_27 z_24) (va_cwS 1 hts (jgS (jWr_31 _ (List.mem_of_getElem? (i := 13) rfl)) (jWr_31 _ (List.mem_of_getElem? (i := 14) rfl)) (jWr_2 _ (List.mem_of_getElem? (i := 8) rfl)) (jWr_31 _ (List.mem_of_getElem? (i := 15) rfl))) rfl rfl rfl (by decide +kernel) ⟨by rw [← hR]; exact Nat.le_of_ble_eq_true rfl, by rw [← hR]; exact Nat.le_of_ble_eq_true rfl⟩) ⟨fun a U g mk q => by obtain ⟨q0, q1, q2, qK, q10, q11⟩ := q; exact ⟨q0, q1, q2, jG.calling g mk a qK, q10, q11⟩, fun U hU hW => ⟨rfl, hU, hh_27.2.1, hG.step hW hU hh_27.1, jP.nil, trivial⟩⟩ rfl rfl hl.1 rfl (lv_room (Nat.le_of_ble_eq_true rfl)) dX7_formula_127 ⟨by rw [hRc]; show _ + 0 ≤ _; omega, by rw [hRs]; show _ + 0 ≤ _; omega⟩) hh_27.1 (fun q _ h => h) (fun q h => h) (fun r_96 u_95 t_95 H_95 locs_95 ht_95 hvm_95 hr_96 hb_95 hz_95 hk_95 hS_95 => ?_)
                rw [ht_95] at hb_95
                obtain ⟨hb_95, hbV_95⟩ := hb_95
                obtain ⟨hb_951, hb_952, hb_953, hb_954, hb_955⟩ := hb_95
                have hh_95 : jSt (dC, dI) B base G0 Gx_5 EX7_formula s.heap zcx_5 zsx_5 [(r0, 9, 1, .ref stack_20), (r0, 9, 2, .int z_16), (r2, 2, 1, .int wc_5), (r2, 2, 0, .ref wr_5)] [] [([(2, 0), (2, 1)], jOw (dC, dI) G0 2 r2 s.heap)] H_95 locs_95 := ((hh_27.call hb_951 hb_952 hb_953 hb_954 hS_95 rfl (L1 := [(r0, 9, 1, .ref stack_20), (r0, 9, 2, .int z_16), (r2, 2, 1, .int wc_5), (r2, 2, 0, .ref wr_5)]) [0, 1, 2, 3] rfl rfl (M1 := []) [] rfl rfl (I1 := [([(2, 0), (2, 1)], jOw (dC, dI) G0 2 r2 s.heap)]) [0] rfl rfl).more hb_955)
                obtain ⟨rfl, hn_95⟩ := hr_96
                have hstr_95 : jStr base u_95.1 u_95.2 s s.heap := hbV_95.back hvm_95 hbs hh_95.1.2.1
                clear hh_27 ht_95 hvm_95 hz_95 hk_95 hS_95 hb_951 hb_952 hb_953 hb_954 hb_955
                have hsz_97 := hh_95.2.2.2.2.2.1
                have htt_97 := hh_95.2.2.2.2.2.2.1
                refine W.room (fun hrc_97 hrs_97 => ?_)
                refine va_callv (A0 := jA base) (H0 := s.heap) (va_runV (As := [.ref u_95.1]) (rest := []) ⟨hx, hb, hml, hown, hts⟩ (uX0_text l dC dI ca base B hB hAp hB2 hB196 Gx_5 H_95 r2 u_95.1 u_95.2 wc_5 wr_5 m_wr_5 LC LS) (cwV 1 hts (jgV (jWr_31 _ (List.mem_of_getElem? (i := 16) rfl)) (jWr_25 _ (List.mem_of_getElem? (i := 22) rfl)) (jWr_25 _ (List.mem_of_getElem? (i := 23) rfl)) (jWr_1 _ (List.mem_of_getElem? (i := 14) rfl)) (jWr_26 _ (List.mem_of_getElem? (i := 0) rfl))) rfl rfl rfl (by decide +kernel) ⟨by rw [← hR]; exact Nat.le_of_ble_eq_true rfl, by rw [← hR]; exact Nat.le_of_ble_eq_true rfl⟩) ⟨fun a U g mk q => by obtain ⟨q0, q1, q2, qK, q10, q11, q12, q13, q14⟩ := q; exact ⟨q0, q1, q2, jG.calling g mk a qK, (q10.moved (Vm.Alike.refl U.vm)), q11, q12, q13, q14⟩, hh_95.recv (C := RX0) (T := TX0) (N := 2) hB2 rfl (by decide) hg_8 hK, fun U hU hW => ⟨rfl, hU, hh_95.2.1, hG.step hW hU hh_95.1, (hstr_95.moved hW.alike).kept hh_95.1.2.1, hg_8, hg_wr_5, (hh_95.2.2.1.sub (L1 := [(r2, 2, 1, .int wc_5), (r2, 2, 0, .ref wr_5)]) [2, 3] rfl), (by omega), (by omega), ⟨(by first | omega | rfl | assumption | fail), (by first | omega | rfl | assumption | fail), (by first | omega | rfl | assumption | fail), (by first | omega | rfl | assumption | fail), (by first | assumption | fail | omega), (by first | omega | rfl | assumption | fail)⟩⟩⟩ rfl rfl hl.1 rfl (lv_room (Nat.le_of_ble_eq_true rfl)) dX7_formula_130 ⟨by rw [hRc]; omega, by rw [hRs]; omega⟩) hh_95.1 (fun q _ h => h) (fun q h => h) (fun u_97 t_97 H_97 locs_97 ht_97 hvm_97 hr_98 hb_97 hz_97 hk_97 hS_97 => ?_)
                obtain ⟨qc_97, qa_97, m_qa_97, G_97⟩ := u_97
                rw [ht_97] at hb_97
                simp only at hb_97
                obtain ⟨⟨hb_971, hb_972, hb_973, hb_974, hb_975, hb_976⟩, hgq_97_0, hN_97, hbO_97⟩ := hb_97
                have hh_97 : jSt (dC, dI) B base G0 G_97 EX7_formula s.heap (zcx_5 + ((m_qa_97 - m_wr_5) / 16)) (zsx_5 + (2 * (m_qa_97 - m_wr_5))) [(r2, 2, 1, .int qc_97), (r2, 2, 0, .ref qa_97), (r0, 9, 1, .ref stack_20), (r0, 9, 2, .int z_16)] [] [] H_97 locs_97 := (hh_95.callG hb_971 hb_972 hb_973 hb_974 hb_975 hS_97 rfl (L1 := [(r0, 9, 1, .ref stack_20), (r0, 9, 2, .int z_16)]) [0, 1] rfl rfl (M1 := []) [] rfl rfl (I1 := []) [] rfl rfl).more hb_976
                have hNn_97 : (jNk [0, 1, 2, 3, 4, 5, 6, 7, 8, 9, 10, 11, 12, 13, 14, 15, 16]) G0 G_97 := (hN_5).tr hN_97
                have hg_99 := hb_972 _ _ hg_6
                have hg_100 := hb_972 _ _ hg_7
                have hg_101 := hb_972 _ _ hg_8
                have hg_102 := hb_972 _ _ hg_stack_20
                have hd_103 := jOw.tr (hh_95.iv 0 rfl) hh_95.2.2.2.2.1 hbO_97
                have hh_104 := hh_97.addI (jOw.ie (dC := dC) (dI := dI) (G0 := G0) (k := 2) (r := r2) (H0 := s.heap) (F := [(2, 0), (2, 1)]) (C := RX0) (T := TX0) (N := 2) rfl (by decide) hh_97.2.2.2.2.1 (hd_103))
                clear hh_97
                try simp only at hr_98
                obtain ⟨hr_98_0, hr_98_1, hr_98_2, hr_98_3, hr_98_4⟩ := hr_98
                have hh_105 := hh_104.wk (zc1 := (m_qa_97 - n_pa) / 16) (zs1 := 2 * (m_qa_97 - n_pa)) (by omega) (by omega)
                clear hh_104
                try clear hsz_97 htt_97 hrc_97 hrs_97
                try clear hb_974 hb_975
                refine lv_goto (tgt := 286) hx hb dX7_formula_133 (by decide) ?_
                obtain ⟨z_106, ez_106⟩ : ∃ y : Int32, y = v3_5 + 1 := ⟨_, rfl⟩
                refine lv_iinc (v := z_106) (lv' := [(3, .int z_106), (8, .int w0_27), (0, .ref r0), (1, .ref r1), (2, .ref r2), (4, .int z_22), (5, .int z_24), (6, .int z_25), (7, .int w0_26)]) hx hb dX7_formula_286 hl (k := 4) rfl (by rw [ez_106]; rfl) (by decide) rfl (fun ls hl => ?_)
                have hz_106 : z_106.toInt = v3_5.toInt + 1 := by rw [ez_106]; exact jb_iadd2 (rfl) (by decide) (by omega)
                refine lv_goto (tgt := 15) hx hb dX7_formula_289 (by decide) ?_
                refine W.tight (c2 := ((m_qa_97 - n_pa) / 16)) (n2 := (2 * (m_qa_97 - n_pa))) hh_105.2.2.2.2.2.1 hh_105.2.2.2.2.2.2.1 ?_
                exact L15 G_97 ((m_qa_97 - n_pa) / 16) (2 * (m_qa_97 - n_pa)) z_106 qc_97 qa_97 m_qa_97 _ _ (hh_105.sub (L1 := [(r2, 2, 1, .int qc_97), (r2, 2, 0, .ref qa_97)]) [0, 1] rfl (M1 := []) [] rfl (I1 := [([(2, 0), (2, 1)], jOw (dC, dI) G0 2 r2 s.heap)]) [0] rfl) (hNn_97) ((hle_5).tr hb_972) hgq_97_0 (⟨(by first | omega | rfl | assumption | fail), (by first | omega | rfl | assumption | fail), (by first | omega | rfl | assumption | fail), (by first | omega | rfl | assumption | fail), (by first | assumption | fail | omega), (by first | omega | rfl | assumption | fail), (by first | omega | rfl | assumption | fail), (by first | omega | rfl | assumption | fail), (by first | omega | rfl | assumption | fail)⟩) (by omega) _ (lv_sub hl [2, 3, 4, 0] rfl)
            refine lv_icmp_eq (tgt := 112) hx hb dX7_formula_102 (by decide) (fun c_107 => ?_) (fun c_107 => ?_)
            · skip
              have c_107' : w0_26.toInt = 5 := jb_eq (rfl) ((by decide)) c_107
              refine lv_iconst (v := 1) hx hb dX7_formula_112 (by decide) ?_
              refine lv_goto (tgt := 117) hx hb dX7_formula_113 (by decide) ?_
              refine W.tight (c2 := zcx_5) (n2 := zsx_5) hh_26.2.2.2.2.2.1 hh_26.2.2.2.2.2.2.1 ?_
              exact C117 1 _ _ hh_26 (Or.inr rfl) (by first | omega | rfl | assumption | fail) _ (lv_sub hl [1, 2, 3, 4, 5, 6, 7, 0] rfl)
            · skip
              have c_107' : w0_26.toInt ≠ 5 := jb_eq_n (rfl) ((by decide)) c_107
              refine lv_iload hx hb dX7_formula_105 (lv_at hl 0 rfl) ?_
              refine lv_bipush (v := 6) hx hb dX7_formula_107 (by decide) ?_
              refine lv_icmp_ne (tgt := 116) hx hb dX7_formula_109 (by decide) (fun c_108 => ?_) (fun c_108 => ?_)
              · skip
                have c_108' : w0_26.toInt ≠ 6 := jb_ne (rfl) ((by decide)) c_108
                refine lv_iconst (v := 0) hx hb dX7_formula_116 (by decide) ?_
                refine W.tight (c2 := zcx_5) (n2 := zsx_5) hh_26.2.2.2.2.2.1 hh_26.2.2.2.2.2.2.1 ?_
                exact C117 0 _ _ hh_26 (Or.inl rfl) (by first | omega | rfl | assumption | fail) _ (lv_sub hl [1, 2, 3, 4, 5, 6, 7, 0] rfl)
              · skip
                have c_108' : w0_26.toInt = 6 := jb_ne_n (rfl) ((by decide)) c_108
                refine lv_iconst (v := 1) hx hb dX7_formula_112 (by decide) ?_
                refine lv_goto (tgt := 117) hx hb dX7_formula_113 (by decide) ?_
                refine W.tight (c2 := zcx_5) (n2 := zsx_5) hh_26.2.2.2.2.2.1 hh_26.2.2.2.2.2.2.1 ?_
                exact C117 1 _ _ hh_26 (Or.inr rfl) (by first | omega | rfl | assumption | fail) _ (lv_sub hl [1, 2, 3, 4, 5, 6, 7, 0] rfl)
          refine lv_icmp_ne (tgt := 96) hx hb dX7_formula_76 (by decide) (fun c_109 => ?_) (fun c_109 => ?_)
          · skip
            have c_109' : z_22.toInt ≠ 2 := jb_ne (rfl) ((by decide)) c_109
            refine lv_iconst (v := 0) hx hb dX7_formula_96 (by decide) ?_
            refine W.tight (c2 := zcx_5) (n2 := zsx_5) hh_19.2.2.2.2.2.1 hh_19.2.2.2.2.2.2.1 ?_
            exact C97 0 _ _ hh_19 (⟨(by first | omega | rfl | assumption | fail), (by first | omega | rfl | assumption | fail), (by first | omega | rfl | assumption | fail)⟩) _ (lv_sub hl [3, 4, 5, 6, 2, 1, 0] rfl)
          · skip
            have c_109' : z_22.toInt = 2 := jb_ne_n (rfl) ((by decide)) c_109
            refine lv_iload hx hb dX7_formula_79 (lv_at hl 0 rfl) ?_
            refine lv_aload_n hx hb dX7_formula_81 rfl (lv_at hl 4 rfl) ?_
            refine j7_len hx hb hK hh_19 hB180 1 rfl (by decide) hg_7 (by omega) dX7_formula_82 (fun z_110 hz_110 => ?_)
            refine lv_icmp_ge (tgt := 96) hx hb dX7_formula_83 (by decide) (fun c_111 => ?_) (fun c_111 => ?_)
            · skip
              have c_111' : z_25.toInt ≥ z_110.toInt := jb_ge (rfl) (rfl) c_111
              refine lv_iconst (v := 0) hx hb dX7_formula_96 (by decide) ?_
              refine W.tight (c2 := zcx_5) (n2 := zsx_5) hh_19.2.2.2.2.2.1 hh_19.2.2.2.2.2.2.1 ?_
              exact C97 0 _ _ hh_19 (⟨(by first | omega | rfl | assumption | fail), (by first | omega | rfl | assumption | fail), (by first | omega | rfl | assumption | fail)⟩) _ (lv_sub hl [3, 4, 5, 6, 2, 1, 0] rfl)
            · skip
              have c_111' : z_25.toInt < z_110.toInt := jb_ge_n (rfl) (rfl) c_111
              refine lv_aload_n hx hb dX7_formula_86 rfl (lv_at hl 4 rfl) ?_
              refine lv_iload hx hb dX7_formula_87 (lv_at hl 0 rfl) ?_
              refine j7_iald hx hb hK hh_19 hB180 1 rfl (by decide) hg_7 (x := z_25.toInt) (rfl) (by omega) dX7_formula_89 (fun z_112 (hz_112 : 0 ≤ z_112.toInt) => ?_)
              refine lv_bipush (v := 15) hx hb dX7_formula_90 (by decide) ?_
              refine lv_iand hx hb dX7_formula_92 ?_
              refine lv_topi (fun z_113 ez_113 => ?_)
              have hz_113 : 0 ≤ z_113.toInt ∧ z_113.toInt ≤ 15 := by rw [ez_113]; exact jb_and z_112 (m := 15) (k := 4) (by decide) (by decide)
              refine lv_goto (tgt := 97) hx hb dX7_formula_93 (by decide) ?_
              refine W.tight (c2 := zcx_5) (n2 := zsx_5) hh_19.2.2.2.2.2.1 hh_19.2.2.2.2.2.2.1 ?_
              exact C97 z_113 _ _ hh_19 (⟨(by first | omega | rfl | assumption | fail), (by first | omega | rfl | assumption | fail), (by first | omega | rfl | assumption | fail)⟩) _ (lv_sub hl [3, 4, 5, 6, 2, 1, 0] rfl)
  refine W.tight (c2 := 0) (n2 := 0) hh_3.2.2.2.2.2.1 hh_3.2.2.2.2.2.2.1 ?_
  exact L15 (800 - (0 : Int32).toInt : Int).toNat.succ G0 0 0 0 pc pa n_pa _ _ hh_3 (jNk.rf) (jLe.rf) hg_pa (⟨(by first | omega | rfl | assumption | fail), (by first | omega | rfl | assumption | fail), (by first | omega | rfl | assumption | fail), (by first | omega | rfl | assumption | fail), (by first | assumption | fail | omega), (by first | omega | rfl | assumption | fail), (by first | omega | rfl | assumption | fail), (by first | omega | rfl | assumption | fail), (by first | omega | rfl | assumption | fail)⟩) (by omega) _ (lv_sub hl [1, 2, 3, 0] rfl)
