section
theorem dX7_proof_0 : decode cX7_proof 0 = .ok (.aload_n 1, 1) := by decide +kernel
theorem dX7_proof_1 : decode cX7_proof 1 = .ok (.getfield 25, 3) := by decide +kernel
theorem dX7_proof_4 : decode cX7_proof 4 = .ok (.ifCond .ge 10, 3) := by decide +kernel
theorem dX7_proof_7 : decode cX7_proof 7 = .ok (.aload_n 2, 1) := by decide +kernel
theorem dX7_proof_8 : decode cX7_proof 8 = .ok (.ldc 31, 2) := by decide +kernel
theorem dX7_proof_10 : decode cX7_proof 10 = .ok (.invokevirtual 33, 3) := by decide +kernel
theorem dX7_proof_13 : decode cX7_proof 13 = .ok (.return_, 1) := by decide +kernel
theorem dX7_proof_14 : decode cX7_proof 14 = .ok (.aload_n 2, 1) := by decide +kernel
theorem dX7_proof_15 : decode cX7_proof 15 = .ok (.ldc 39, 2) := by decide +kernel
theorem dX7_proof_17 : decode cX7_proof 17 = .ok (.invokevirtual 33, 3) := by decide +kernel
theorem dX7_proof_20 : decode cX7_proof 20 = .ok (.aload_n 0, 1) := by decide +kernel
theorem dX7_proof_21 : decode cX7_proof 21 = .ok (.getfield 21, 3) := by decide +kernel
theorem dX7_proof_24 : decode cX7_proof 24 = .ok (.aload_n 1, 1) := by decide +kernel
theorem dX7_proof_25 : decode cX7_proof 25 = .ok (.getfield 25, 3) := by decide +kernel
theorem dX7_proof_28 : decode cX7_proof 28 = .ok (.iconst 0, 1) := by decide +kernel
theorem dX7_proof_29 : decode cX7_proof 29 = .ok (.aload_n 2, 1) := by decide +kernel
theorem dX7_proof_30 : decode cX7_proof 30 = .ok (.invokevirtual 41, 3) := by decide +kernel
theorem dX7_proof_33 : decode cX7_proof 33 = .ok (.aload_n 2, 1) := by decide +kernel
theorem dX7_proof_34 : decode cX7_proof 34 = .ok (.ldc 47, 2) := by decide +kernel
theorem dX7_proof_36 : decode cX7_proof 36 = .ok (.invokevirtual 33, 3) := by decide +kernel
theorem dX7_proof_39 : decode cX7_proof 39 = .ok (.iconst 0, 1) := by decide +kernel
theorem dX7_proof_40 : decode cX7_proof 40 = .ok (.istore_n 3, 1) := by decide +kernel
theorem dX7_proof_41 : decode cX7_proof 41 = .ok (.iload_n 3, 1) := by decide +kernel
theorem dX7_proof_42 : decode cX7_proof 42 = .ok (.aload_n 1, 1) := by decide +kernel
theorem dX7_proof_43 : decode cX7_proof 43 = .ok (.getfield 49, 3) := by decide +kernel
theorem dX7_proof_46 : decode cX7_proof 46 = .ok (.arraylength, 1) := by decide +kernel
theorem dX7_proof_47 : decode cX7_proof 47 = .ok (.if_icmp .ge 170, 3) := by decide +kernel
theorem dX7_proof_50 : decode cX7_proof 50 = .ok (.aload_n 1, 1) := by decide +kernel
theorem dX7_proof_51 : decode cX7_proof 51 = .ok (.getfield 49, 3) := by decide +kernel
theorem dX7_proof_54 : decode cX7_proof 54 = .ok (.iload_n 3, 1) := by decide +kernel
theorem dX7_proof_55 : decode cX7_proof 55 = .ok (.aaload, 1) := by decide +kernel
theorem dX7_proof_56 : decode cX7_proof 56 = .ok (.astore 4, 2) := by decide +kernel
theorem dX7_proof_58 : decode cX7_proof 58 = .ok (.aload_n 2, 1) := by decide +kernel
theorem dX7_proof_59 : decode cX7_proof 59 = .ok (.iload_n 3, 1) := by decide +kernel
theorem dX7_proof_60 : decode cX7_proof 60 = .ok (.ifCond .le 8, 3) := by decide +kernel
theorem dX7_proof_63 : decode cX7_proof 63 = .ok (.ldc 53, 2) := by decide +kernel
theorem dX7_proof_65 : decode cX7_proof 65 = .ok (.goto 5, 3) := by decide +kernel
theorem dX7_proof_68 : decode cX7_proof 68 = .ok (.ldc 55, 2) := by decide +kernel
theorem dX7_proof_70 : decode cX7_proof 70 = .ok (.invokevirtual 33, 3) := by decide +kernel
theorem dX7_proof_73 : decode cX7_proof 73 = .ok (.iconst 0, 1) := by decide +kernel
theorem dX7_proof_74 : decode cX7_proof 74 = .ok (.istore 5, 2) := by decide +kernel
theorem dX7_proof_76 : decode cX7_proof 76 = .ok (.iload 5, 2) := by decide +kernel
theorem dX7_proof_78 : decode cX7_proof 78 = .ok (.aload 4, 2) := by decide +kernel
theorem dX7_proof_80 : decode cX7_proof 80 = .ok (.getfield 57, 3) := by decide +kernel
theorem dX7_proof_83 : decode cX7_proof 83 = .ok (.arraylength, 1) := by decide +kernel
theorem dX7_proof_84 : decode cX7_proof 84 = .ok (.if_icmp .ge 32, 3) := by decide +kernel
theorem dX7_proof_87 : decode cX7_proof 87 = .ok (.aload_n 0, 1) := by decide +kernel
theorem dX7_proof_88 : decode cX7_proof 88 = .ok (.getfield 21, 3) := by decide +kernel
theorem dX7_proof_91 : decode cX7_proof 91 = .ok (.aload 4, 2) := by decide +kernel
theorem dX7_proof_93 : decode cX7_proof 93 = .ok (.getfield 57, 3) := by decide +kernel
theorem dX7_proof_96 : decode cX7_proof 96 = .ok (.iload 5, 2) := by decide +kernel
theorem dX7_proof_98 : decode cX7_proof 98 = .ok (.iaload, 1) := by decide +kernel
theorem dX7_proof_99 : decode cX7_proof 99 = .ok (.iconst 0, 1) := by decide +kernel
theorem dX7_proof_100 : decode cX7_proof 100 = .ok (.aload_n 2, 1) := by decide +kernel
theorem dX7_proof_101 : decode cX7_proof 101 = .ok (.invokevirtual 41, 3) := by decide +kernel
theorem dX7_proof_104 : decode cX7_proof 104 = .ok (.aload_n 2, 1) := by decide +kernel
theorem dX7_proof_105 : decode cX7_proof 105 = .ok (.bipush 32, 2) := by decide +kernel
theorem dX7_proof_107 : decode cX7_proof 107 = .ok (.invokevirtual 62, 3) := by decide +kernel
theorem dX7_proof_110 : decode cX7_proof 110 = .ok (.iinc 5 1, 3) := by decide +kernel
theorem dX7_proof_113 : decode cX7_proof 113 = .ok (.goto (-37), 3) := by decide +kernel
theorem dX7_proof_116 : decode cX7_proof 116 = .ok (.iconst 0, 1) := by decide +kernel
theorem dX7_proof_117 : decode cX7_proof 117 = .ok (.istore 5, 2) := by decide +kernel
theorem dX7_proof_119 : decode cX7_proof 119 = .ok (.iload 5, 2) := by decide +kernel
theorem dX7_proof_121 : decode cX7_proof 121 = .ok (.aload 4, 2) := by decide +kernel
theorem dX7_proof_123 : decode cX7_proof 123 = .ok (.getfield 66, 3) := by decide +kernel
theorem dX7_proof_126 : decode cX7_proof 126 = .ok (.arraylength, 1) := by decide +kernel
theorem dX7_proof_127 : decode cX7_proof 127 = .ok (.if_icmp .ge 62, 3) := by decide +kernel
theorem dX7_proof_130 : decode cX7_proof 130 = .ok (.iload 5, 2) := by decide +kernel
theorem dX7_proof_132 : decode cX7_proof 132 = .ok (.aload 4, 2) := by decide +kernel
theorem dX7_proof_134 : decode cX7_proof 134 = .ok (.getfield 68, 3) := by decide +kernel
theorem dX7_proof_137 : decode cX7_proof 137 = .ok (.arraylength, 1) := by decide +kernel
theorem dX7_proof_138 : decode cX7_proof 138 = .ok (.if_icmp .ge 51, 3) := by decide +kernel
theorem dX7_proof_141 : decode cX7_proof 141 = .ok (.aload_n 0, 1) := by decide +kernel
theorem dX7_proof_142 : decode cX7_proof 142 = .ok (.getfield 21, 3) := by decide +kernel
theorem dX7_proof_145 : decode cX7_proof 145 = .ok (.aload 4, 2) := by decide +kernel
theorem dX7_proof_147 : decode cX7_proof 147 = .ok (.getfield 66, 3) := by decide +kernel
theorem dX7_proof_150 : decode cX7_proof 150 = .ok (.iload 5, 2) := by decide +kernel
theorem dX7_proof_152 : decode cX7_proof 152 = .ok (.iaload, 1) := by decide +kernel
theorem dX7_proof_153 : decode cX7_proof 153 = .ok (.iconst 0, 1) := by decide +kernel
theorem dX7_proof_154 : decode cX7_proof 154 = .ok (.aload_n 2, 1) := by decide +kernel
theorem dX7_proof_155 : decode cX7_proof 155 = .ok (.invokevirtual 41, 3) := by decide +kernel
theorem dX7_proof_158 : decode cX7_proof 158 = .ok (.aload_n 2, 1) := by decide +kernel
theorem dX7_proof_159 : decode cX7_proof 159 = .ok (.ldc 72, 2) := by decide +kernel
theorem dX7_proof_161 : decode cX7_proof 161 = .ok (.invokevirtual 33, 3) := by decide +kernel
theorem dX7_proof_164 : decode cX7_proof 164 = .ok (.aload_n 0, 1) := by decide +kernel
theorem dX7_proof_165 : decode cX7_proof 165 = .ok (.aload 4, 2) := by decide +kernel
theorem dX7_proof_167 : decode cX7_proof 167 = .ok (.getfield 68, 3) := by decide +kernel
theorem dX7_proof_170 : decode cX7_proof 170 = .ok (.iload 5, 2) := by decide +kernel
theorem dX7_proof_172 : decode cX7_proof 172 = .ok (.aaload, 1) := by decide +kernel
theorem dX7_proof_173 : decode cX7_proof 173 = .ok (.aload_n 2, 1) := by decide +kernel
theorem dX7_proof_174 : decode cX7_proof 174 = .ok (.invokevirtual 74, 3) := by decide +kernel
theorem dX7_proof_177 : decode cX7_proof 177 = .ok (.aload_n 2, 1) := by decide +kernel
theorem dX7_proof_178 : decode cX7_proof 178 = .ok (.ldc 78, 2) := by decide +kernel
theorem dX7_proof_180 : decode cX7_proof 180 = .ok (.invokevirtual 33, 3) := by decide +kernel
theorem dX7_proof_183 : decode cX7_proof 183 = .ok (.iinc 5 1, 3) := by decide +kernel
theorem dX7_proof_186 : decode cX7_proof 186 = .ok (.goto (-67), 3) := by decide +kernel
theorem dX7_proof_189 : decode cX7_proof 189 = .ok (.aload_n 2, 1) := by decide +kernel
theorem dX7_proof_190 : decode cX7_proof 190 = .ok (.ldc 80, 2) := by decide +kernel
theorem dX7_proof_192 : decode cX7_proof 192 = .ok (.invokevirtual 33, 3) := by decide +kernel
theorem dX7_proof_195 : decode cX7_proof 195 = .ok (.aload_n 0, 1) := by decide +kernel
theorem dX7_proof_196 : decode cX7_proof 196 = .ok (.aload 4, 2) := by decide +kernel
theorem dX7_proof_198 : decode cX7_proof 198 = .ok (.getfield 82, 3) := by decide +kernel
theorem dX7_proof_201 : decode cX7_proof 201 = .ok (.aload_n 2, 1) := by decide +kernel
theorem dX7_proof_202 : decode cX7_proof 202 = .ok (.invokevirtual 74, 3) := by decide +kernel
theorem dX7_proof_205 : decode cX7_proof 205 = .ok (.aload_n 2, 1) := by decide +kernel
theorem dX7_proof_206 : decode cX7_proof 206 = .ok (.bipush 34, 2) := by decide +kernel
theorem dX7_proof_208 : decode cX7_proof 208 = .ok (.invokevirtual 62, 3) := by decide +kernel
theorem dX7_proof_211 : decode cX7_proof 211 = .ok (.iinc 3 1, 3) := by decide +kernel
theorem dX7_proof_214 : decode cX7_proof 214 = .ok (.goto (-173), 3) := by decide +kernel
theorem dX7_proof_217 : decode cX7_proof 217 = .ok (.aload_n 2, 1) := by decide +kernel
theorem dX7_proof_218 : decode cX7_proof 218 = .ok (.ldc 84, 2) := by decide +kernel
theorem dX7_proof_220 : decode cX7_proof 220 = .ok (.invokevirtual 33, 3) := by decide +kernel
theorem dX7_proof_223 : decode cX7_proof 223 = .ok (.return_, 1) := by decide +kernel
theorem dX7_statement_0 : decode cX7_statement 0 = .ok (.aload_n 1, 1) := by decide +kernel
theorem dX7_statement_1 : decode cX7_statement 1 = .ok (.getfield 86, 3) := by decide +kernel
theorem dX7_statement_4 : decode cX7_statement 4 = .ok (.iload_n 2, 1) := by decide +kernel
theorem dX7_statement_5 : decode cX7_statement 5 = .ok (.invokestatic 89, 3) := by decide +kernel
theorem dX7_statement_8 : decode cX7_statement 8 = .ok (.istore 4, 2) := by decide +kernel
theorem dX7_statement_10 : decode cX7_statement 10 = .ok (.aload_n 1, 1) := by decide +kernel
theorem dX7_statement_11 : decode cX7_statement 11 = .ok (.iload_n 2, 1) := by decide +kernel
theorem dX7_statement_12 : decode cX7_statement 12 = .ok (.invokevirtual 93, 3) := by decide +kernel
theorem dX7_statement_15 : decode cX7_statement 15 = .ok (.istore 5, 2) := by decide +kernel
theorem dX7_statement_17 : decode cX7_statement 17 = .ok (.iload 4, 2) := by decide +kernel
theorem dX7_statement_19 : decode cX7_statement 19 = .ok (.ifCond .lt 30, 3) := by decide +kernel
theorem dX7_statement_22 : decode cX7_statement 22 = .ok (.aload_n 3, 1) := by decide +kernel
theorem dX7_statement_23 : decode cX7_statement 23 = .ok (.bipush 34, 2) := by decide +kernel
theorem dX7_statement_25 : decode cX7_statement 25 = .ok (.invokevirtual 62, 3) := by decide +kernel
theorem dX7_statement_28 : decode cX7_statement 28 = .ok (.aload_n 0, 1) := by decide +kernel
theorem dX7_statement_29 : decode cX7_statement 29 = .ok (.aload_n 1, 1) := by decide +kernel
theorem dX7_statement_30 : decode cX7_statement 30 = .ok (.getfield 97, 3) := by decide +kernel
theorem dX7_statement_33 : decode cX7_statement 33 = .ok (.iload 4, 2) := by decide +kernel
theorem dX7_statement_35 : decode cX7_statement 35 = .ok (.aaload, 1) := by decide +kernel
theorem dX7_statement_36 : decode cX7_statement 36 = .ok (.aload_n 3, 1) := by decide +kernel
theorem dX7_statement_37 : decode cX7_statement 37 = .ok (.invokevirtual 74, 3) := by decide +kernel
theorem dX7_statement_40 : decode cX7_statement 40 = .ok (.aload_n 3, 1) := by decide +kernel
theorem dX7_statement_41 : decode cX7_statement 41 = .ok (.bipush 34, 2) := by decide +kernel
theorem dX7_statement_43 : decode cX7_statement 43 = .ok (.invokevirtual 62, 3) := by decide +kernel
theorem dX7_statement_46 : decode cX7_statement 46 = .ok (.goto 29, 3) := by decide +kernel
theorem dX7_statement_49 : decode cX7_statement 49 = .ok (.iload 5, 2) := by decide +kernel
theorem dX7_statement_51 : decode cX7_statement 51 = .ok (.ifCond .lt 18, 3) := by decide +kernel
theorem dX7_statement_54 : decode cX7_statement 54 = .ok (.aload_n 3, 1) := by decide +kernel
theorem dX7_statement_55 : decode cX7_statement 55 = .ok (.iload 5, 2) := by decide +kernel
theorem dX7_statement_57 : decode cX7_statement 57 = .ok (.iconst 4, 1) := by decide +kernel
theorem dX7_statement_58 : decode cX7_statement 58 = .ok (.ishr, 1) := by decide +kernel
theorem dX7_statement_59 : decode cX7_statement 59 = .ok (.sipush 2047, 3) := by decide +kernel
theorem dX7_statement_62 : decode cX7_statement 62 = .ok (.iand, 1) := by decide +kernel
theorem dX7_statement_63 : decode cX7_statement 63 = .ok (.invokevirtual 100, 3) := by decide +kernel
theorem dX7_statement_66 : decode cX7_statement 66 = .ok (.goto 9, 3) := by decide +kernel
theorem dX7_statement_69 : decode cX7_statement 69 = .ok (.aload_n 3, 1) := by decide +kernel
theorem dX7_statement_70 : decode cX7_statement 70 = .ok (.ldc 31, 2) := by decide +kernel
theorem dX7_statement_72 : decode cX7_statement 72 = .ok (.invokevirtual 33, 3) := by decide +kernel
theorem dX7_statement_75 : decode cX7_statement 75 = .ok (.return_, 1) := by decide +kernel
def EX7_statement : List (Nat × Nat) := [(2, 0), (2, 1), (9, 2), (196, 0), (286, 0), (287, 0), (288, 0)]
def EX7_proof : List (Nat × Nat) := [(2, 0), (2, 1), (9, 2), (196, 0), (286, 0), (287, 0), (288, 0)]
set_option maxHeartbeats 4000000 in
set_option maxRecDepth 20000 in
theorem uX7_statement (l : Launch) (dC : Nat → ClassId) (dI : Nat → Nat → Nat) (ca : Nat → ClassId) (base : Nat) (B : jF) (hB : jBok B) (hAp : jAp (dC, dI)) (hB2 : ∀ n G a H, B 2 n G a H ↔ jOb (dC, dI) 2 2 (F2 n G) a H) (hB8 : ∀ n G a H, B 8 n G a H ↔ jOb (dC, dI) 8 4 (F8 n G) a H) (hB9 : ∀ n G a H, B 9 n G a H ↔ jOb (dC, dI) 9 5 (F9b n G) a H) (hB11 : ∀ n G a H, B 11 n G a H ↔ jOb (dC, dI) 11 9 (F11 n G) a H) (hB101 : ∀ n G a H, B 101 n G a H ↔ jAr (dC, dI) (ca 1) (fun j z => True) n a H) (hB102 : ∀ n G a H, B 102 n G a H ↔ jAl (dC, dI) (ca 2) n a H) (hB132 : ∀ n G a H, B 132 n G a H ↔ jAr (dC, dI) (ca 1) (fun j z => 0 ≤ z.toInt ∧ z.toInt ≤ 10) n a H) (hB196 : ∀ n G a H, B 196 n G a H ↔ jAr (dC, dI) (ca 0) (fun j z => jBf j z) n a H) (hB280 : ∀ n G a H, B 280 n G a H ↔ jAr (dC, dI) (ca 1) (fun j z => -1 ≤ z.toInt) n a H) (hB286 : ∀ n G a H, B 286 n G a H ↔ jAr (dC, dI) (ca 1) (fun j z => (0 ≤ z.toInt ∨ z.toInt = -3)) n a H) (hB287 : ∀ n G a H, B 287 n G a H ↔ jAr (dC, dI) (ca 1) (fun j z => 0 ≤ z.toInt ∧ z.toInt ≤ 65535) n a H) (hB288 : ∀ n G a H, B 288 n G a H ↔ jAr (dC, dI) (ca 1) (fun j z => 0 ≤ z.toInt ∧ z.toInt ≤ 160) n a H) (hB313 : ∀ n G a H, B 313 n G a H ↔ jAq (dC, dI) (ca 8) (jQk 280 80) n G a H) (G0 : jT) (H0 : Heap) (r0 : Nat) (r1 : Nat) (a2 : Int32) (r3 : Nat) (pc : Int32) (pa : Nat) (n_pa : Nat) (LC LS : Nat) : Met l yX7_statement (jw yX7_statement cX7_statement 6 none) ({ frames := 6, cells := LC - H0.size, slots := LS - jTot H0, locals := 194 }) (va_Pc [.ref r0, .ref r1, .int a2, .ref r3] (fun U => U.heap = H0 ∧ jX B base G0 [] H0 ∧ jG dC dI ca base U ∧ jK5 dC dI ca U ∧ G0 r3 = some (2, 0) ∧ G0 r1 = some (11, 0) ∧ G0 r0 = some (9, 0) ∧ G0 pa = some (196, n_pa) ∧ jP (dC, dI) G0 H0 [(r3, 2, 1, .int pc), (r3, 2, 0, .ref pa)] ∧ jIs (dC, dI) G0 H0 [(jFs11, jSef dC dI G0)] ∧ H0.size + (1048576 - n_pa) / 16 + 1 ≤ LC ∧ jTot H0 + 2 * (1048576 - n_pa) ≤ LS ∧ 0 ≤ pc.toInt ∧ pc.toInt ≤ n_pa ∧ 16 ≤ n_pa ∧ n_pa ≤ 1048576 ∧ jPw n_pa)) (va_Qv (S := Int32 × Nat × Nat × jT) (fun u => 0 ≤ u.1.toInt ∧ u.1.toInt ≤ u.2.2.1 ∧ n_pa ≤ u.2.2.1 ∧ u.2.2.1 ≤ 1048576 ∧ jPw u.2.2.1) (fun u t => jRa (dC, dI) B base G0 u.2.2.2 EX7_statement H0 ((u.2.2.1 - n_pa) / 16) (2 * (u.2.2.1 - n_pa)) [(r3, 2, 1, .int u.1), (r3, 2, 0, .ref u.2.1)] t.heap ∧ u.2.2.2 u.2.1 = some (196, u.2.2.1) ∧ (jNk [0, 1, 2, 3, 4, 5, 6, 7, 8, 9, 10, 11, 12, 13, 14, 15, 16, 17, 175]) G0 u.2.2.2 ∧ jOw (dC, dI) G0 2 r3 H0 t.heap ∧ jIs (dC, dI) u.2.2.2 t.heap [(jFs11, jSef dC dI u.2.2.2)]) (jA base)) (LC - H0.size) (LS - jTot H0) (jA base) := by
  refine Met.ofW (cc := cX7_statement) (maxL := 6) (ret := none) (by decide) rfl ?_
  intro p e s m args below meth c s₁ Bd hml hv
  obtain ⟨rfl, hH0, hX, hG, hK5, hg_r3, hg_r1, hg_r0, hg_pa, hP0, hI0, hLC0, hLS0, hp0, hp1, hp2, hp3, hp4⟩ := hv
  have hK := hG.1
  have hx := Bd.exec
  have hb := Bd.bytes
  have hr := Bd.returns
  have hts := atoms_spec (ws := (jw yX7_statement cX7_statement 6 none)) Bd.pre
  have htw : ∀ w ∈ jWl, w.before _ s = true := fun w h => hts w (List.mem_cons_of_mem _ h)
  have hown : s.vm.findClass RX7 = some m.cls := findClass_of_methodNamed Bd.named
  have hlocks := Bd.notSynchronized
  obtain ⟨Q, hQ⟩ : ∃ Q, Q = MQ below (va_Qv (S := Int32 × Nat × Nat × jT) (fun u => 0 ≤ u.1.toInt ∧ u.1.toInt ≤ u.2.2.1 ∧ n_pa ≤ u.2.2.1 ∧ u.2.2.1 ≤ 1048576 ∧ jPw u.2.2.1) (fun u t => jRa (dC, dI) B base G0 u.2.2.2 EX7_statement H0 ((u.2.2.1 - n_pa) / 16) (2 * (u.2.2.1 - n_pa)) [(r3, 2, 1, .int u.1), (r3, 2, 0, .ref u.2.1)] t.heap ∧ u.2.2.2 u.2.1 = some (196, u.2.2.1) ∧ (jNk [0, 1, 2, 3, 4, 5, 6, 7, 8, 9, 10, 11, 12, 13, 14, 15, 16, 17, 175]) G0 u.2.2.2 ∧ jOw (dC, dI) G0 2 r3 H0 t.heap ∧ jIs (dC, dI) u.2.2.2 t.heap [(jFs11, jSef dC dI u.2.2.2)]) (jA base)) ([.ref r0, .ref r1, .int a2, .ref r3] : List Value).toArray s (LC - H0.size) (LS - jTot H0) (jA base) := ⟨_, rfl⟩
  rw [← hQ]
  have hl := lv_entry ([.ref r0, .ref r1, .int a2, .ref r3]) (n := 6) (Nat.le_of_ble_eq_true rfl)
  rw [lg_entry_eq]
  generalize (lg_sl ([.ref r0, .ref r1, .int a2, .ref r3]) ++ List.replicate (6 - (lg_sl ([.ref r0, .ref r1, .int a2, .ref r3])).length) Slot.unset).toArray = ls at hl ⊢
  have hl : lv_has ls 6 [(0, .ref r0), (1, .ref r1), (2, .int a2), (3, .ref r3)] := hl
  generalize hR : (headSpec (jw yX7_statement cX7_statement 6 none) ({ frames := 6, cells := LC - H0.size, slots := LS - jTot H0, locals := 194 })).room = R
  subst hH0
  have hh : jSt (dC, dI) B base G0 G0 EX7_statement s.heap 0 0 [(r3, 2, 1, .int pc), (r3, 2, 0, .ref pa)] [] [(jFs11, jSef dC dI G0)] s.heap [] := jSt.start hX hP0 jMc.nil hI0
  clear hX hP0
  have hk0 : (0 : Int32).toInt = 0 := by decide
  have hk1 : (1 : Int32).toInt = 1 := by decide
  have hk4 : (4 : Int32).toInt = 4 := by decide
  have hk34 : (34 : Int32).toInt = 34 := by decide
  have hk2047 : (2047 : Int32).toInt = 2047 := by decide
  have hly_11_4 := htw (u_lay RX9 TX9 4) (jWc_wsX90 _ (u_in_lay (by decide)))
  have hly_11_5 := htw (u_lay RX9 TX9 5) (jWc_wsX90 _ (u_in_lay (by decide)))
  have hlk_86 := (htw (.fieldLink RX7 86 "ProofServer$State" "factNames" "[I") (jWr_30 _ (List.mem_of_getElem? (i := 17) rfl)))
  have hlk_97 := (htw (.fieldLink RX7 97 "ProofServer$State" "facts" "[[I") (jWr_30 _ (List.mem_of_getElem? (i := 18) rfl)))
  obtain ⟨str31, rstr31, hstr310⟩ := hG.str (o := RX7) (k := 31) (tx := "null") (List.mem_of_getElem? (i := 1010) (by decide +kernel))
  have hstr31 : jStr base str31 4 s s.heap := hstr310
  have hrg_a2 := jb_rng a2
  have hbs : base ≤ s.heap.size := Nat.le_of_lt (Nat.lt_of_le_of_lt (hh.ab hg_r0).1 (hh.ab hg_r0).2)
  have hRc : R.cells = LC - s.heap.size := by rw [← hR]; rfl
  have hRs : R.slots = LS - jTot s.heap := by rw [← hR]; rfl
  have hh_1 := hh.addI (jOw.ie (dC := dC) (dI := dI) (G0 := G0) (k := 2) (r := r3) (H0 := s.heap) (F := [(2, 0), (2, 1)]) (C := RX0) (T := TX0) (N := 2) rfl (by decide) hh.2.2.2.2.1 (jOw.rf))
  clear hh
  obtain ⟨sx_2, sy_2, sm_2, hs1_2, hs2_2, hg_sx_2, hg_sy_2, hsm_2⟩ := (hh_1.iv 1 rfl) _ hg_r1
  have hh_3 := hh_1.more (P1 := [(r1, 11, 4, .ref sx_2), (r1, 11, 5, .ref sy_2)]) (jP.cons hg_r1 hs1_2 (jP.cons hg_r1 hs2_2 jP.nil))
  clear hh_1 hs1_2 hs2_2
  refine lv_aload_n hx hb dX7_statement_0 rfl (lv_at hl 1 rfl) ?_
  refine j7_read hx hb hown hK (C := RX9) (T := TX9) (N := 9) rfl hly_11_4 hlk_86 (hh_3.at 0 rfl) dX7_statement_1 ?_
  refine lv_iload_n hx hb dX7_statement_4 rfl (lv_at hl 2 rfl) ?_
  have hsz_4 := hh_3.2.2.2.2.2.1
  have htt_4 := hh_3.2.2.2.2.2.2.1
  refine W.room (fun hrc_4 hrs_4 => ?_)
  refine va_calli (A0 := jA base) (H0 := s.heap) (va_runS (As := [.ref sx_2, .int a2]) (rest := []) ⟨hx, hb, hml, hown, hts⟩ (uX9_find l dC dI ca base B hB hAp hB101 G0 s.heap sx_2 a2 sm_2) (va_cwS 2 hts (jgS (jWr_30 _ (List.mem_of_getElem? (i := 19) rfl)) (jWr_30 _ (List.mem_of_getElem? (i := 20) rfl)) (jWr_4 _ (List.mem_of_getElem? (i := 18) rfl)) (jWr_30 _ (List.mem_of_getElem? (i := 21) rfl))) rfl rfl rfl (by decide +kernel) ⟨by rw [← hR]; exact Nat.le_of_ble_eq_true rfl, by rw [← hR]; exact Nat.le_of_ble_eq_true rfl⟩) ⟨fun a U g mk q => by obtain ⟨q0, q1, q2, qK, q10, q11, q12⟩ := q; exact ⟨q0, q1, q2, jG.calling g mk a qK, q10, q11, q12⟩, fun U hU hW => ⟨rfl, hU, hh_3.2.1, hG.step hW hU hh_3.1, hg_sx_2, jP.nil, by first | omega | rfl | assumption | fail⟩⟩ rfl rfl hl.1 rfl (lv_room (Nat.le_of_ble_eq_true rfl)) dX7_statement_5 ⟨by rw [hRc]; show _ + 0 ≤ _; omega, by rw [hRs]; show _ + 0 ≤ _; omega⟩) hh_3.1 (fun q _ h => h) (fun q h => h) (fun r_5 u_4 t_4 H_4 locs_4 ht_4 hvm_4 hr_5 hb_4 hz_4 hk_4 hS_4 => ?_)
  rw [ht_4] at hb_4
  obtain ⟨hb_41, hb_42, hb_43, hb_44, hb_45⟩ := hb_4
  have hh_4 : jSt (dC, dI) B base G0 G0 EX7_statement s.heap 0 0 [(r1, 11, 4, .ref sx_2), (r1, 11, 5, .ref sy_2), (r3, 2, 1, .int pc), (r3, 2, 0, .ref pa)] [] [([(2, 0), (2, 1)], jOw (dC, dI) G0 2 r3 s.heap), (jFs11, jSef dC dI G0)] H_4 locs_4 := ((hh_3.call hb_41 hb_42 hb_43 hb_44 hS_4 rfl (L1 := [(r1, 11, 4, .ref sx_2), (r1, 11, 5, .ref sy_2), (r3, 2, 1, .int pc), (r3, 2, 0, .ref pa)]) [0, 1, 2, 3] rfl rfl (M1 := []) [] rfl rfl (I1 := [([(2, 0), (2, 1)], jOw (dC, dI) G0 2 r3 s.heap), (jFs11, jSef dC dI G0)]) [0, 1] rfl rfl).more hb_45)
  clear hh_3 ht_4 hvm_4 hz_4 hk_4 hS_4 hb_41 hb_42 hb_43 hb_44 hb_45
  obtain ⟨hr_5_0, hr_5_1⟩ := hr_5
  refine lv_istore (lv' := [(4, .int r_5), (0, .ref r0), (1, .ref r1), (2, .int a2), (3, .ref r3)]) hx hb dX7_statement_8 hl (by decide) rfl (fun ls hl => ?_)
  refine lv_aload_n hx hb dX7_statement_10 rfl (lv_at hl 2 rfl) ?_
  refine lv_iload_n hx hb dX7_statement_11 rfl (lv_at hl 3 rfl) ?_
  have hsz_6 := hh_4.2.2.2.2.2.1
  have htt_6 := hh_4.2.2.2.2.2.2.1
  refine W.room (fun hrc_6 hrs_6 => ?_)
  refine va_calli (A0 := jA base) (H0 := s.heap) (va_runV (As := [.int a2]) (rest := []) ⟨hx, hb, hml, hown, hts⟩ (uX9_symbolOf l dC dI ca base B hB hAp hB11 hB101 G0 H_4 r1 a2) (cwV 1 hts (jgV (jWr_30 _ (List.mem_of_getElem? (i := 22) rfl)) (jWr_30 _ (List.mem_of_getElem? (i := 23) rfl)) (jWr_31 _ (List.mem_of_getElem? (i := 0) rfl)) (jWr_4 _ (List.mem_of_getElem? (i := 18) rfl)) (jWr_31 _ (List.mem_of_getElem? (i := 1) rfl))) rfl rfl rfl (by decide +kernel) ⟨by rw [← hR]; exact Nat.le_of_ble_eq_true rfl, by rw [← hR]; exact Nat.le_of_ble_eq_true rfl⟩) ⟨fun a U g mk q => by obtain ⟨q0, q1, q2, qK, q10, q11, q12⟩ := q; exact ⟨q0, q1, q2, jG.calling g mk a qK, q10, q11, q12⟩, hh_4.recv (C := RX9) (T := TX9) (N := 9) hB11 rfl (by decide) hg_r1 hK, fun U hU hW => ⟨rfl, hU, hh_4.2.1, hG.step hW hU hh_4.1, hg_r1, jP.nil, trivial⟩⟩ rfl rfl hl.1 rfl (lv_room (Nat.le_of_ble_eq_true rfl)) dX7_statement_12 ⟨by rw [hRc]; show _ + 0 ≤ _; omega, by rw [hRs]; show _ + 0 ≤ _; omega⟩) hh_4.1 (fun q _ h => h) (fun q h => h) (fun r_7 u_6 t_6 H_6 locs_6 ht_6 hvm_6 hr_7 hb_6 hz_6 hk_6 hS_6 => ?_)
  rw [ht_6] at hb_6
  obtain ⟨hb_61, hb_62, hb_63, hb_64, hb_65⟩ := hb_6
  have hh_6 : jSt (dC, dI) B base G0 G0 EX7_statement s.heap 0 0 [(r1, 11, 4, .ref sx_2), (r1, 11, 5, .ref sy_2), (r3, 2, 1, .int pc), (r3, 2, 0, .ref pa)] [] [([(2, 0), (2, 1)], jOw (dC, dI) G0 2 r3 s.heap), (jFs11, jSef dC dI G0)] H_6 locs_6 := ((hh_4.call hb_61 hb_62 hb_63 hb_64 hS_6 rfl (L1 := [(r1, 11, 4, .ref sx_2), (r1, 11, 5, .ref sy_2), (r3, 2, 1, .int pc), (r3, 2, 0, .ref pa)]) [0, 1, 2, 3] rfl rfl (M1 := []) [] rfl rfl (I1 := [([(2, 0), (2, 1)], jOw (dC, dI) G0 2 r3 s.heap), (jFs11, jSef dC dI G0)]) [0, 1] rfl rfl).more hb_65)
  clear hh_4 ht_6 hvm_6 hz_6 hk_6 hS_6 hb_61 hb_62 hb_63 hb_64 hb_65
  refine lv_istore (lv' := [(5, .int r_7), (4, .int r_5), (0, .ref r0), (1, .ref r1), (2, .int a2), (3, .ref r3)]) hx hb dX7_statement_15 hl (by decide) rfl (fun ls hl => ?_)
  refine lv_iload hx hb dX7_statement_17 (lv_at hl 1 rfl) ?_
  refine lv_if_lt (tgt := 49) hx hb dX7_statement_19 (by decide) (fun c_8 => ?_) (fun c_8 => ?_)
  · skip
    have c_8' : r_5.toInt < 0 := jb_lt (rfl) ((by decide)) c_8
    refine lv_iload hx hb dX7_statement_49 (lv_at hl 0 rfl) ?_
    refine lv_if_lt (tgt := 69) hx hb dX7_statement_51 (by decide) (fun c_9 => ?_) (fun c_9 => ?_)
    · skip
      have c_9' : r_7.toInt < 0 := jb_lt (rfl) ((by decide)) c_9
      refine lv_aload_n hx hb dX7_statement_69 rfl (lv_at hl 5 rfl) ?_
      refine va_ldcS hx hb hown rstr31 dX7_statement_70 ?_
      have hsz_10 := hh_6.2.2.2.2.2.1
      have htt_10 := hh_6.2.2.2.2.2.2.1
      refine W.room (fun hrc_10 hrs_10 => ?_)
      refine va_callv (A0 := jA base) (H0 := s.heap) (va_runV (As := [.ref str31]) (rest := []) ⟨hx, hb, hml, hown, hts⟩ (uX0_text l dC dI ca base B hB hAp hB2 hB196 G0 H_6 r3 str31 4 pc pa n_pa LC LS) (cwV 1 hts (jgV (jWr_31 _ (List.mem_of_getElem? (i := 16) rfl)) (jWr_25 _ (List.mem_of_getElem? (i := 22) rfl)) (jWr_25 _ (List.mem_of_getElem? (i := 23) rfl)) (jWr_1 _ (List.mem_of_getElem? (i := 14) rfl)) (jWr_26 _ (List.mem_of_getElem? (i := 0) rfl))) rfl rfl rfl (by decide +kernel) ⟨by rw [← hR]; exact Nat.le_of_ble_eq_true rfl, by rw [← hR]; exact Nat.le_of_ble_eq_true rfl⟩) ⟨fun a U g mk q => by obtain ⟨q0, q1, q2, qK, q10, q11, q12, q13, q14⟩ := q; exact ⟨q0, q1, q2, jG.calling g mk a qK, (q10.moved (Vm.Alike.refl U.vm)), q11, q12, q13, q14⟩, hh_6.recv (C := RX0) (T := TX0) (N := 2) hB2 rfl (by decide) hg_r3 hK, fun U hU hW => ⟨rfl, hU, hh_6.2.1, hG.step hW hU hh_6.1, (hstr31.moved hW.alike).kept hh_6.1.2.1, hg_r3, hg_pa, (hh_6.2.2.1.sub (L1 := [(r3, 2, 1, .int pc), (r3, 2, 0, .ref pa)]) [2, 3] rfl), (by omega), (by omega), ⟨(by first | omega | rfl | assumption | fail), (by first | omega | rfl | assumption | fail), (by first | omega | rfl | assumption | fail), (by first | omega | rfl | assumption | fail), (by first | assumption | fail | omega), (by first | omega | rfl | assumption | fail)⟩⟩⟩ rfl rfl hl.1 rfl (lv_room (Nat.le_of_ble_eq_true rfl)) dX7_statement_72 ⟨by rw [hRc]; omega, by rw [hRs]; omega⟩) hh_6.1 (fun q _ h => h) (fun q h => h) (fun u_10 t_10 H_10 locs_10 ht_10 hvm_10 hr_11 hb_10 hz_10 hk_10 hS_10 => ?_)
      obtain ⟨qc_10, qa_10, m_qa_10, G_10⟩ := u_10
      rw [ht_10] at hb_10
      simp only at hb_10
      obtain ⟨⟨hb_101, hb_102, hb_103, hb_104, hb_105, hb_106⟩, hgq_10_0, hN_10, hbO_10⟩ := hb_10
      have hh_10 : jSt (dC, dI) B base G0 G_10 EX7_statement s.heap (0 + ((m_qa_10 - n_pa) / 16)) (0 + (2 * (m_qa_10 - n_pa))) [(r3, 2, 1, .int qc_10), (r3, 2, 0, .ref qa_10), (r1, 11, 4, .ref sx_2), (r1, 11, 5, .ref sy_2)] [] [(jFs11, jSef dC dI G0)] H_10 locs_10 := (hh_6.callG hb_101 hb_102 hb_103 hb_104 hb_105 hS_10 rfl (L1 := [(r1, 11, 4, .ref sx_2), (r1, 11, 5, .ref sy_2)]) [0, 1] rfl rfl (M1 := []) [] rfl rfl (I1 := [(jFs11, jSef dC dI G0)]) [1] rfl rfl).more hb_106
      have hNn_10 : (jNk [0, 1, 2, 3, 4, 5, 6, 7, 8, 9, 10, 11, 12, 13, 14, 15, 16, 17, 175]) G0 G_10 := (jNk.rf).tr hN_10
      have hg_12 := hb_102 _ _ hg_r0
      have hg_13 := hb_102 _ _ hg_r1
      have hg_14 := hb_102 _ _ hg_r3
      have hg_15 := hb_102 _ _ hg_sx_2
      have hg_16 := hb_102 _ _ hg_sy_2
      have hd_17 := jSef.grow (hh_10.iv 0 rfl) hb_102 hN_10 (by decide)
      have hh_18 := hh_10.sub (L1 := [(r3, 2, 1, .int qc_10), (r3, 2, 0, .ref qa_10), (r1, 11, 4, .ref sx_2), (r1, 11, 5, .ref sy_2)]) [0, 1, 2, 3] rfl (M1 := []) [] rfl (I1 := []) [] rfl
      clear hh_10
      have hh_19 := hh_18.addI (jSef.ie hd_17)
      clear hh_18
      have hd_20 := jOw.tr (hh_6.iv 0 rfl) hh_6.2.2.2.2.1 hbO_10
      have hh_21 := hh_19.addI (jOw.ie (dC := dC) (dI := dI) (G0 := G0) (k := 2) (r := r3) (H0 := s.heap) (F := [(2, 0), (2, 1)]) (C := RX0) (T := TX0) (N := 2) rfl (by decide) hh_19.2.2.2.2.1 (hd_20))
      clear hh_19
      try simp only at hr_11
      obtain ⟨hr_11_0, hr_11_1, hr_11_2, hr_11_3, hr_11_4⟩ := hr_11
      have hh_22 := hh_21.wk (zc1 := (m_qa_10 - n_pa) / 16) (zs1 := 2 * (m_qa_10 - n_pa)) (by omega) (by omega)
      clear hh_21
      try clear hsz_10 htt_10 hrc_10 hrs_10
      try clear hb_104 hb_105
      have hsz_23 := hh_22.2.2.2.2.2.1
      have htt_23 := hh_22.2.2.2.2.2.2.1
      refine W.room (fun hrc_23 hrs_23 => ?_)
      refine W.widen (k := LC - s.heap.size) (n := LS - jTot s.heap) (by omega) (by omega) ?_
      rw [hQ]
      exact W.vret hx hb hr (fun t ht hW => ⟨⟨(qc_10, qa_10, m_qa_10, G_10), rfl, by (try dsimp only); exact ⟨(by first | omega | rfl | assumption | fail), (by first | omega | rfl | assumption | fail), (by first | omega | rfl | assumption | fail), (by first | omega | rfl | assumption | fail), (by first | assumption | fail | omega)⟩, ⟨hh_22.ra (by first | omega | (simp only; omega)) (by first | omega | (simp only; omega)) (M1 := [(r3, 2, 1, .int qc_10), (r3, 2, 0, .ref qa_10)]) [0, 1] rfl ht, hgq_10_0, hNn_10, by rw [ht]; exact hh_22.iv 0 rfl, by rw [ht]; exact hh_22.2.2.2.2.2.2.2.2.sub (L1 := [(jFs11, jSef dC dI G_10)]) [1] rfl⟩⟩, by rw [ht]; try exact hh_22.1.1, fun q h9 hq => by rw [ht]; try exact hh_22.1.2.1 q h9 hq⟩) hh_22.1.2.2 dX7_statement_75
    · skip
      have c_9' : r_7.toInt ≥ 0 := jb_lt_n (rfl) ((by decide)) c_9
      refine lv_aload_n hx hb dX7_statement_54 rfl (lv_at hl 5 rfl) ?_
      refine lv_iload hx hb dX7_statement_55 (lv_at hl 0 rfl) ?_
      refine lv_iconst (v := 4) hx hb dX7_statement_57 (by decide) ?_
      refine lv_ishr hx hb dX7_statement_58 ?_
      refine lv_topi (fun z_24 ez_24 => ?_)
      have hz_24 : z_24.toInt = r_7.toInt / 2 ^ 4 := by rw [ez_24]; exact jb_ishr 4 (rfl) (by decide)
      refine lv_sipush (v := 2047) hx hb dX7_statement_59 (by decide) ?_
      refine lv_iand hx hb dX7_statement_62 ?_
      refine lv_topi (fun z_25 ez_25 => ?_)
      have hz_25 : 0 ≤ z_25.toInt ∧ z_25.toInt ≤ 2047 := by rw [ez_25]; exact jb_and z_24 (m := 2047) (k := 11) (by decide) (by decide)
      have hbz_25 := jb_rng z_24
      have hsz_26 := hh_6.2.2.2.2.2.1
      have htt_26 := hh_6.2.2.2.2.2.2.1
      refine W.room (fun hrc_26 hrs_26 => ?_)
      refine va_callv (A0 := jA base) (H0 := s.heap) (va_runV (As := [.int z_25]) (rest := []) ⟨hx, hb, hml, hown, hts⟩ (uX0_number l dC dI ca base B hB hAp hB2 hB196 G0 H_6 r3 z_25 pc pa n_pa LC LS) (cwV 1 hts (jgV (jWr_32 _ (List.mem_of_getElem? (i := 20) rfl)) (jWr_24 _ (List.mem_of_getElem? (i := 16) rfl)) (jWr_24 _ (List.mem_of_getElem? (i := 17) rfl)) (jWr_1 _ (List.mem_of_getElem? (i := 14) rfl)) (jWr_24 _ (List.mem_of_getElem? (i := 18) rfl))) rfl rfl rfl (by decide +kernel) ⟨by rw [← hR]; exact Nat.le_of_ble_eq_true rfl, by rw [← hR]; exact Nat.le_of_ble_eq_true rfl⟩) ⟨fun a U g mk q => by obtain ⟨q0, q1, q2, qK, q10, q11, q12, q13⟩ := q; exact ⟨q0, q1, q2, jG.calling g mk a qK, q10, q11, q12, q13⟩, hh_6.recv (C := RX0) (T := TX0) (N := 2) hB2 rfl (by decide) hg_r3 hK, fun U hU hW => ⟨rfl, hU, hh_6.2.1, hG.step hW hU hh_6.1, hg_r3, hg_pa, (hh_6.2.2.1.sub (L1 := [(r3, 2, 1, .int pc), (r3, 2, 0, .ref pa)]) [2, 3] rfl), (by omega), (by omega), ⟨(by first | omega | rfl | assumption | fail), (by first | omega | rfl | assumption | fail), (by first | omega | rfl | assumption | fail), (by first | omega | rfl | assumption | fail), (by first | assumption | fail | omega)⟩⟩⟩ rfl rfl hl.1 rfl (lv_room (Nat.le_of_ble_eq_true rfl)) dX7_statement_63 ⟨by rw [hRc]; omega, by rw [hRs]; omega⟩) hh_6.1 (fun q _ h => h) (fun q h => h) (fun u_26 t_26 H_26 locs_26 ht_26 hvm_26 hr_27 hb_26 hz_26 hk_26 hS_26 => ?_)
      obtain ⟨qc_26, qa_26, m_qa_26, G_26⟩ := u_26
      rw [ht_26] at hb_26
      simp only at hb_26
      obtain ⟨⟨hb_261, hb_262, hb_263, hb_264, hb_265, hb_266⟩, hgq_26_0, hN_26, hbO_26⟩ := hb_26
      have hh_26 : jSt (dC, dI) B base G0 G_26 EX7_statement s.heap (0 + ((m_qa_26 - n_pa) / 16)) (0 + (2 * (m_qa_26 - n_pa))) [(r3, 2, 1, .int qc_26), (r3, 2, 0, .ref qa_26), (r1, 11, 4, .ref sx_2), (r1, 11, 5, .ref sy_2)] [] [(jFs11, jSef dC dI G0)] H_26 locs_26 := (hh_6.callG hb_261 hb_262 hb_263 hb_264 hb_265 hS_26 rfl (L1 := [(r1, 11, 4, .ref sx_2), (r1, 11, 5, .ref sy_2)]) [0, 1] rfl rfl (M1 := []) [] rfl rfl (I1 := [(jFs11, jSef dC dI G0)]) [1] rfl rfl).more hb_266
      have hNn_26 : (jNk [0, 1, 2, 3, 4, 5, 6, 7, 8, 9, 10, 11, 12, 13, 14, 15, 16, 17, 175]) G0 G_26 := (jNk.rf).tr hN_26
      have hg_28 := hb_262 _ _ hg_r0
      have hg_29 := hb_262 _ _ hg_r1
      have hg_30 := hb_262 _ _ hg_r3
      have hg_31 := hb_262 _ _ hg_sx_2
      have hg_32 := hb_262 _ _ hg_sy_2
      have hd_33 := jSef.grow (hh_26.iv 0 rfl) hb_262 hN_26 (by decide)
      have hh_34 := hh_26.sub (L1 := [(r3, 2, 1, .int qc_26), (r3, 2, 0, .ref qa_26), (r1, 11, 4, .ref sx_2), (r1, 11, 5, .ref sy_2)]) [0, 1, 2, 3] rfl (M1 := []) [] rfl (I1 := []) [] rfl
      clear hh_26
      have hh_35 := hh_34.addI (jSef.ie hd_33)
      clear hh_34
      have hd_36 := jOw.tr (hh_6.iv 0 rfl) hh_6.2.2.2.2.1 hbO_26
      have hh_37 := hh_35.addI (jOw.ie (dC := dC) (dI := dI) (G0 := G0) (k := 2) (r := r3) (H0 := s.heap) (F := [(2, 0), (2, 1)]) (C := RX0) (T := TX0) (N := 2) rfl (by decide) hh_35.2.2.2.2.1 (hd_36))
      clear hh_35
      try simp only at hr_27
      obtain ⟨hr_27_0, hr_27_1, hr_27_2, hr_27_3, hr_27_4⟩ := hr_27
      have hh_38 := hh_37.wk (zc1 := (m_qa_26 - n_pa) / 16) (zs1 := 2 * (m_qa_26 - n_pa)) (by omega) (by omega)
      clear hh_37
      try clear hsz_26 htt_26 hrc_26 hrs_26
      try clear hb_264 hb_265
      refine lv_goto (tgt := 75) hx hb dX7_statement_66 (by decide) ?_
      have hsz_39 := hh_38.2.2.2.2.2.1
      have htt_39 := hh_38.2.2.2.2.2.2.1
      refine W.room (fun hrc_39 hrs_39 => ?_)
      refine W.widen (k := LC - s.heap.size) (n := LS - jTot s.heap) (by omega) (by omega) ?_
      rw [hQ]
      exact W.vret hx hb hr (fun t ht hW => ⟨⟨(qc_26, qa_26, m_qa_26, G_26), rfl, by (try dsimp only); exact ⟨(by first | omega | rfl | assumption | fail), (by first | omega | rfl | assumption | fail), (by first | omega | rfl | assumption | fail), (by first | omega | rfl | assumption | fail), (by first | assumption | fail | omega)⟩, ⟨hh_38.ra (by first | omega | (simp only; omega)) (by first | omega | (simp only; omega)) (M1 := [(r3, 2, 1, .int qc_26), (r3, 2, 0, .ref qa_26)]) [0, 1] rfl ht, hgq_26_0, hNn_26, by rw [ht]; exact hh_38.iv 0 rfl, by rw [ht]; exact hh_38.2.2.2.2.2.2.2.2.sub (L1 := [(jFs11, jSef dC dI G_26)]) [1] rfl⟩⟩, by rw [ht]; try exact hh_38.1.1, fun q h9 hq => by rw [ht]; try exact hh_38.1.2.1 q h9 hq⟩) hh_38.1.2.2 dX7_statement_75
  · skip
    have c_8' : r_5.toInt ≥ 0 := jb_lt_n (rfl) ((by decide)) c_8
    refine lv_aload_n hx hb dX7_statement_22 rfl (lv_at hl 5 rfl) ?_
    refine lv_bipush (v := 34) hx hb dX7_statement_23 (by decide) ?_
    have hsz_40 := hh_6.2.2.2.2.2.1
    have htt_40 := hh_6.2.2.2.2.2.2.1
    refine W.room (fun hrc_40 hrs_40 => ?_)
    refine va_callv (A0 := jA base) (H0 := s.heap) (va_runV (As := [.int 34]) (rest := []) ⟨hx, hb, hml, hown, hts⟩ (uX0_put l dC dI ca base B hB hAp hB2 hB196 G0 H_6 r3 34 pc pa n_pa LC LS) (cwV 1 hts (jgV (jWr_31 _ (List.mem_of_getElem? (i := 2) rfl)) (jWr_16 _ (List.mem_of_getElem? (i := 0) rfl)) (jWr_16 _ (List.mem_of_getElem? (i := 1) rfl)) (jWr_1 _ (List.mem_of_getElem? (i := 14) rfl)) (jWr_16 _ (List.mem_of_getElem? (i := 2) rfl))) rfl rfl rfl (by decide +kernel) ⟨by rw [← hR]; exact Nat.le_of_ble_eq_true rfl, by rw [← hR]; exact Nat.le_of_ble_eq_true rfl⟩) ⟨fun a U g mk q => by obtain ⟨q0, q1, q2, qK, q10, q11, q12, q13⟩ := q; exact ⟨q0, q1, q2, jG.calling g mk a qK, q10, q11, q12, q13⟩, hh_6.recv (C := RX0) (T := TX0) (N := 2) hB2 rfl (by decide) hg_r3 hK, fun U hU hW => ⟨rfl, hU, hh_6.2.1, hG.step hW hU hh_6.1, hg_r3, hg_pa, (hh_6.2.2.1.sub (L1 := [(r3, 2, 1, .int pc), (r3, 2, 0, .ref pa)]) [2, 3] rfl), (by omega), (by omega), ⟨(by first | omega | rfl | assumption | fail), (by first | omega | rfl | assumption | fail), (by first | omega | rfl | assumption | fail), (by first | omega | rfl | assumption | fail), (by first | assumption | fail | omega)⟩⟩⟩ rfl rfl hl.1 rfl (lv_room (Nat.le_of_ble_eq_true rfl)) dX7_statement_25 ⟨by rw [hRc]; omega, by rw [hRs]; omega⟩) hh_6.1 (fun q _ h => h) (fun q h => h) (fun u_40 t_40 H_40 locs_40 ht_40 hvm_40 hr_41 hb_40 hz_40 hk_40 hS_40 => ?_)
    obtain ⟨qc_40, qa_40, m_qa_40, G_40⟩ := u_40
    rw [ht_40] at hb_40
    simp only at hb_40
    obtain ⟨⟨hb_401, hb_402, hb_403, hb_404, hb_405, hb_406⟩, hgq_40_0, hN_40, hbO_40⟩ := hb_40
    have hh_40 : jSt (dC, dI) B base G0 G_40 EX7_statement s.heap (0 + ((m_qa_40 - n_pa) / 16)) (0 + (2 * (m_qa_40 - n_pa))) [(r3, 2, 1, .int qc_40), (r3, 2, 0, .ref qa_40), (r1, 11, 4, .ref sx_2), (r1, 11, 5, .ref sy_2)] [] [(jFs11, jSef dC dI G0)] H_40 locs_40 := (hh_6.callG hb_401 hb_402 hb_403 hb_404 hb_405 hS_40 rfl (L1 := [(r1, 11, 4, .ref sx_2), (r1, 11, 5, .ref sy_2)]) [0, 1] rfl rfl (M1 := []) [] rfl rfl (I1 := [(jFs11, jSef dC dI G0)]) [1] rfl rfl).more hb_406
    have hNn_40 : (jNk [0, 1, 2, 3, 4, 5, 6, 7, 8, 9, 10, 11, 12, 13, 14, 15, 16, 17, 175]) G0 G_40 := (jNk.rf).tr hN_40
    have hg_42 := hb_402 _ _ hg_r0
    have hg_43 := hb_402 _ _ hg_r1
    have hg_44 := hb_402 _ _ hg_r3
    have hg_45 := hb_402 _ _ hg_sx_2
    have hg_46 := hb_402 _ _ hg_sy_2
    have hd_47 := jSef.grow (hh_40.iv 0 rfl) hb_402 hN_40 (by decide)
    have hh_48 := hh_40.sub (L1 := [(r3, 2, 1, .int qc_40), (r3, 2, 0, .ref qa_40), (r1, 11, 4, .ref sx_2), (r1, 11, 5, .ref sy_2)]) [0, 1, 2, 3] rfl (M1 := []) [] rfl (I1 := []) [] rfl
    clear hh_40
    have hh_49 := hh_48.addI (jSef.ie hd_47)
    clear hh_48
    have hd_50 := jOw.tr (hh_6.iv 0 rfl) hh_6.2.2.2.2.1 hbO_40
    have hh_51 := hh_49.addI (jOw.ie (dC := dC) (dI := dI) (G0 := G0) (k := 2) (r := r3) (H0 := s.heap) (F := [(2, 0), (2, 1)]) (C := RX0) (T := TX0) (N := 2) rfl (by decide) hh_49.2.2.2.2.1 (hd_50))
    clear hh_49
    try simp only at hr_41
    obtain ⟨hr_41_0, hr_41_1, hr_41_2, hr_41_3, hr_41_4⟩ := hr_41
    have hh_52 := hh_51.wk (zc1 := (m_qa_40 - n_pa) / 16) (zs1 := 2 * (m_qa_40 - n_pa)) (by omega) (by omega)
    clear hh_51
    try clear hsz_40 htt_40 hrc_40 hrs_40
    try clear hb_404 hb_405
    refine lv_aload_n hx hb dX7_statement_28 rfl (lv_at hl 2 rfl) ?_
    refine lv_aload_n hx hb dX7_statement_29 rfl (lv_at hl 3 rfl) ?_
    refine j7_read hx hb hown hK (C := RX9) (T := TX9) (N := 9) rfl hly_11_5 hlk_97 (hh_52.at 3 rfl) dX7_statement_30 ?_
    refine lv_iload hx hb dX7_statement_33 (lv_at hl 1 rfl) ?_
    refine j7_qaldA hx hb hK5 hh_52 hB313 (by decide) hg_46 (x := r_5.toInt) (rfl) (by omega) dX7_statement_35 (fun o_53 ho_53 => ?_)
    obtain ⟨el_54, nel_54, rfl, hg_el_54, hn_el_54⟩ := ho_53
    simp only [va_rf]
    refine lv_aload_n hx hb dX7_statement_36 rfl (lv_at hl 5 rfl) ?_
    have hsz_55 := hh_52.2.2.2.2.2.1
    have htt_55 := hh_52.2.2.2.2.2.2.1
    refine W.room (fun hrc_55 hrs_55 => ?_)
    refine va_callv (A0 := jA base) (H0 := s.heap) (va_runV (As := [.ref el_54, .ref r3]) (rest := []) ⟨hx, hb, hml, hown, hts⟩ (uX7_formula l dC dI ca base B hB hAp hB2 hB8 hB9 hB102 hB132 hB196 hB280 hB286 hB287 hB288 G_40 H_40 r0 el_54 r3 nel_54 qc_40 qa_40 m_qa_40 LC LS) (cwV 2 hts (jgV (jWr_31 _ (List.mem_of_getElem? (i := 3) rfl)) (jWr_31 _ (List.mem_of_getElem? (i := 4) rfl)) (jWr_31 _ (List.mem_of_getElem? (i := 5) rfl)) (jWr_2 _ (List.mem_of_getElem? (i := 8) rfl)) (jWr_31 _ (List.mem_of_getElem? (i := 6) rfl))) rfl rfl rfl (by decide +kernel) ⟨by rw [← hR]; exact Nat.le_of_ble_eq_true rfl, by rw [← hR]; exact Nat.le_of_ble_eq_true rfl⟩) ⟨fun a U g mk q => by obtain ⟨q0, q1, q2, qK, q10, q11, q12, q13, q14, q15⟩ := q; exact ⟨q0, q1, q2, jG.calling g mk a qK, q10, q11, q12, q13, q14, q15⟩, hh_52.recv (C := RX7) (T := TX7) (N := 5) hB9 rfl (by decide) hg_42 hK, fun U hU hW => ⟨rfl, hU, hh_52.2.1, hG.step hW hU hh_52.1, hg_44, hg_el_54, hg_42, hgq_40_0, (hh_52.2.2.1.sub (L1 := [(r3, 2, 1, .int qc_40), (r3, 2, 0, .ref qa_40)]) [0, 1] rfl), (by omega), (by omega), ⟨(by first | omega | rfl | assumption | fail), (by first | omega | rfl | assumption | fail), (by first | omega | rfl | assumption | fail), (by first | omega | rfl | assumption | fail), (by first | assumption | fail | omega), (by first | omega | rfl | assumption | fail)⟩⟩⟩ rfl rfl hl.1 rfl (lv_room (Nat.le_of_ble_eq_true rfl)) dX7_statement_37 ⟨by rw [hRc]; omega, by rw [hRs]; omega⟩) hh_52.1 (fun q _ h => h) (fun q h => h) (fun u_55 t_55 H_55 locs_55 ht_55 hvm_55 hr_56 hb_55 hz_55 hk_55 hS_55 => ?_)
    obtain ⟨qc_55, qa_55, m_qa_55, G_55⟩ := u_55
    rw [ht_55] at hb_55
    simp only at hb_55
    obtain ⟨⟨hb_551, hb_552, hb_553, hb_554, hb_555, hb_556⟩, hgq_55_0, hN_55, hbO_55⟩ := hb_55
    have hh_55 : jSt (dC, dI) B base G0 G_55 EX7_statement s.heap (((m_qa_40 - n_pa) / 16) + ((m_qa_55 - m_qa_40) / 16)) ((2 * (m_qa_40 - n_pa)) + (2 * (m_qa_55 - m_qa_40))) [(r3, 2, 1, .int qc_55), (r3, 2, 0, .ref qa_55), (r1, 11, 4, .ref sx_2), (r1, 11, 5, .ref sy_2)] [] [(jFs11, jSef dC dI G_40)] H_55 locs_55 := (hh_52.callG hb_551 hb_552 hb_553 hb_554 hb_555 hS_55 rfl (L1 := [(r1, 11, 4, .ref sx_2), (r1, 11, 5, .ref sy_2)]) [2, 3] rfl rfl (M1 := []) [] rfl rfl (I1 := [(jFs11, jSef dC dI G_40)]) [1] rfl rfl).more hb_556
    have hNn_55 : (jNk [0, 1, 2, 3, 4, 5, 6, 7, 8, 9, 10, 11, 12, 13, 14, 15, 16, 17, 175]) G0 G_55 := (hNn_40).tr hN_55
    have hg_57 := hb_552 _ _ hg_42
    have hg_58 := hb_552 _ _ hg_43
    have hg_59 := hb_552 _ _ hg_44
    have hg_60 := hb_552 _ _ hg_45
    have hg_61 := hb_552 _ _ hg_46
    have hd_62 := jSef.grow (hh_55.iv 0 rfl) hb_552 hN_55 (by decide)
    have hh_63 := hh_55.sub (L1 := [(r3, 2, 1, .int qc_55), (r3, 2, 0, .ref qa_55), (r1, 11, 4, .ref sx_2), (r1, 11, 5, .ref sy_2)]) [0, 1, 2, 3] rfl (M1 := []) [] rfl (I1 := []) [] rfl
    clear hh_55
    have hh_64 := hh_63.addI (jSef.ie hd_62)
    clear hh_63
    have hd_65 := jOw.tr (hh_52.iv 0 rfl) hh_52.2.2.2.2.1 hbO_55
    have hh_66 := hh_64.addI (jOw.ie (dC := dC) (dI := dI) (G0 := G0) (k := 2) (r := r3) (H0 := s.heap) (F := [(2, 0), (2, 1)]) (C := RX0) (T := TX0) (N := 2) rfl (by decide) hh_64.2.2.2.2.1 (hd_65))
    clear hh_64
    try simp only at hr_56
    obtain ⟨hr_56_0, hr_56_1, hr_56_2, hr_56_3, hr_56_4⟩ := hr_56
    have hh_67 := hh_66.wk (zc1 := (m_qa_55 - n_pa) / 16) (zs1 := 2 * (m_qa_55 - n_pa)) (by omega) (by omega)
    clear hh_66
    try clear hsz_55 htt_55 hrc_55 hrs_55
    try clear hb_554 hb_555
    refine lv_aload_n hx hb dX7_statement_40 rfl (lv_at hl 5 rfl) ?_
    refine lv_bipush (v := 34) hx hb dX7_statement_41 (by decide) ?_
    have hsz_68 := hh_67.2.2.2.2.2.1
    have htt_68 := hh_67.2.2.2.2.2.2.1
    refine W.room (fun hrc_68 hrs_68 => ?_)
    refine va_callv (A0 := jA base) (H0 := s.heap) (va_runV (As := [.int 34]) (rest := []) ⟨hx, hb, hml, hown, hts⟩ (uX0_put l dC dI ca base B hB hAp hB2 hB196 G_55 H_55 r3 34 qc_55 qa_55 m_qa_55 LC LS) (cwV 1 hts (jgV (jWr_31 _ (List.mem_of_getElem? (i := 2) rfl)) (jWr_16 _ (List.mem_of_getElem? (i := 0) rfl)) (jWr_16 _ (List.mem_of_getElem? (i := 1) rfl)) (jWr_1 _ (List.mem_of_getElem? (i := 14) rfl)) (jWr_16 _ (List.mem_of_getElem? (i := 2) rfl))) rfl rfl rfl (by decide +kernel) ⟨by rw [← hR]; exact Nat.le_of_ble_eq_true rfl, by rw [← hR]; exact Nat.le_of_ble_eq_true rfl⟩) ⟨fun a U g mk q => by obtain ⟨q0, q1, q2, qK, q10, q11, q12, q13⟩ := q; exact ⟨q0, q1, q2, jG.calling g mk a qK, q10, q11, q12, q13⟩, hh_67.recv (C := RX0) (T := TX0) (N := 2) hB2 rfl (by decide) hg_59 hK, fun U hU hW => ⟨rfl, hU, hh_67.2.1, hG.step hW hU hh_67.1, hg_59, hgq_55_0, (hh_67.2.2.1.sub (L1 := [(r3, 2, 1, .int qc_55), (r3, 2, 0, .ref qa_55)]) [0, 1] rfl), (by omega), (by omega), ⟨(by first | omega | rfl | assumption | fail), (by first | omega | rfl | assumption | fail), (by first | omega | rfl | assumption | fail), (by first | omega | rfl | assumption | fail), (by first | assumption | fail | omega)⟩⟩⟩ rfl rfl hl.1 rfl (lv_room (Nat.le_of_ble_eq_true rfl)) dX7_statement_43 ⟨by rw [hRc]; omega, by rw [hRs]; omega⟩) hh_67.1 (fun q _ h => h) (fun q h => h) (fun u_68 t_68 H_68 locs_68 ht_68 hvm_68 hr_69 hb_68 hz_68 hk_68 hS_68 => ?_)
    obtain ⟨qc_68, qa_68, m_qa_68, G_68⟩ := u_68
    rw [ht_68] at hb_68
    simp only at hb_68
    obtain ⟨⟨hb_681, hb_682, hb_683, hb_684, hb_685, hb_686⟩, hgq_68_0, hN_68, hbO_68⟩ := hb_68
    have hh_68 : jSt (dC, dI) B base G0 G_68 EX7_statement s.heap (((m_qa_55 - n_pa) / 16) + ((m_qa_68 - m_qa_55) / 16)) ((2 * (m_qa_55 - n_pa)) + (2 * (m_qa_68 - m_qa_55))) [(r3, 2, 1, .int qc_68), (r3, 2, 0, .ref qa_68), (r1, 11, 4, .ref sx_2), (r1, 11, 5, .ref sy_2)] [] [(jFs11, jSef dC dI G_55)] H_68 locs_68 := (hh_67.callG hb_681 hb_682 hb_683 hb_684 hb_685 hS_68 rfl (L1 := [(r1, 11, 4, .ref sx_2), (r1, 11, 5, .ref sy_2)]) [2, 3] rfl rfl (M1 := []) [] rfl rfl (I1 := [(jFs11, jSef dC dI G_55)]) [1] rfl rfl).more hb_686
    have hNn_68 : (jNk [0, 1, 2, 3, 4, 5, 6, 7, 8, 9, 10, 11, 12, 13, 14, 15, 16, 17, 175]) G0 G_68 := (hNn_55).tr hN_68
    have hg_70 := hb_682 _ _ hg_57
    have hg_71 := hb_682 _ _ hg_58
    have hg_72 := hb_682 _ _ hg_59
    have hg_73 := hb_682 _ _ hg_60
    have hg_74 := hb_682 _ _ hg_61
    have hd_75 := jSef.grow (hh_68.iv 0 rfl) hb_682 hN_68 (by decide)
    have hh_76 := hh_68.sub (L1 := [(r3, 2, 1, .int qc_68), (r3, 2, 0, .ref qa_68), (r1, 11, 4, .ref sx_2), (r1, 11, 5, .ref sy_2)]) [0, 1, 2, 3] rfl (M1 := []) [] rfl (I1 := []) [] rfl
    clear hh_68
    have hh_77 := hh_76.addI (jSef.ie hd_75)
    clear hh_76
    have hd_78 := jOw.tr (hh_67.iv 0 rfl) hh_67.2.2.2.2.1 hbO_68
    have hh_79 := hh_77.addI (jOw.ie (dC := dC) (dI := dI) (G0 := G0) (k := 2) (r := r3) (H0 := s.heap) (F := [(2, 0), (2, 1)]) (C := RX0) (T := TX0) (N := 2) rfl (by decide) hh_77.2.2.2.2.1 (hd_78))
    clear hh_77
    try simp only at hr_69
    obtain ⟨hr_69_0, hr_69_1, hr_69_2, hr_69_3, hr_69_4⟩ := hr_69
    have hh_80 := hh_79.wk (zc1 := (m_qa_68 - n_pa) / 16) (zs1 := 2 * (m_qa_68 - n_pa)) (by omega) (by omega)
    clear hh_79
    try clear hsz_68 htt_68 hrc_68 hrs_68
    try clear hb_684 hb_685
    refine lv_goto (tgt := 75) hx hb dX7_statement_46 (by decide) ?_
    have hsz_81 := hh_80.2.2.2.2.2.1
    have htt_81 := hh_80.2.2.2.2.2.2.1
    refine W.room (fun hrc_81 hrs_81 => ?_)
    refine W.widen (k := LC - s.heap.size) (n := LS - jTot s.heap) (by omega) (by omega) ?_
    rw [hQ]
    exact W.vret hx hb hr (fun t ht hW => ⟨⟨(qc_68, qa_68, m_qa_68, G_68), rfl, by (try dsimp only); exact ⟨(by first | omega | rfl | assumption | fail), (by first | omega | rfl | assumption | fail), (by first | omega | rfl | assumption | fail), (by first | omega | rfl | assumption | fail), (by first | assumption | fail | omega)⟩, ⟨hh_80.ra (by first | omega | (simp only; omega)) (by first | omega | (simp only; omega)) (M1 := [(r3, 2, 1, .int qc_68), (r3, 2, 0, .ref qa_68)]) [0, 1] rfl ht, hgq_68_0, hNn_68, by rw [ht]; exact hh_80.iv 0 rfl, by rw [ht]; exact hh_80.2.2.2.2.2.2.2.2.sub (L1 := [(jFs11, jSef dC dI G_68)]) [1] rfl⟩⟩, by rw [ht]; try exact hh_80.1.1, fun q h9 hq => by rw [ht]; try exact hh_80.1.2.1 q h9 hq⟩) hh_80.1.2.2 dX7_statement_75
set_option maxHeartbeats 4000000 in
set_option maxRecDepth 20000 in
theorem uX7_proof (l : Launch) (dC : Nat → ClassId) (dI : Nat → Nat → Nat) (ca : Nat → ClassId) (base : Nat) (B : jF) (hB : jBok B) (hAp : jAp (dC, dI)) (hB2 : ∀ n G a H, B 2 n G a H ↔ jOb (dC, dI) 2 2 (F2 n G) a H) (hB5 : ∀ n G a H, B 5 n G a H ↔ jOb (dC, dI) 5 4 (F5 n G) a H) (hB8 : ∀ n G a H, B 8 n G a H ↔ jOb (dC, dI) 8 4 (F8 n G) a H) (hB9 : ∀ n G a H, B 9 n G a H ↔ jOb (dC, dI) 9 5 (F9b n G) a H) (hB11 : ∀ n G a H, B 11 n G a H ↔ jOb (dC, dI) 11 9 (F11 n G) a H) (hB101 : ∀ n G a H, B 101 n G a H ↔ jAr (dC, dI) (ca 1) (fun j z => True) n a H) (hB102 : ∀ n G a H, B 102 n G a H ↔ jAl (dC, dI) (ca 2) n a H) (hB132 : ∀ n G a H, B 132 n G a H ↔ jAr (dC, dI) (ca 1) (fun j z => 0 ≤ z.toInt ∧ z.toInt ≤ 10) n a H) (hB196 : ∀ n G a H, B 196 n G a H ↔ jAr (dC, dI) (ca 0) (fun j z => jBf j z) n a H) (hB214 : ∀ n G a H, B 214 n G a H ↔ jAq (dC, dI) (ca 7) (jQg) n G a H) (hB280 : ∀ n G a H, B 280 n G a H ↔ jAr (dC, dI) (ca 1) (fun j z => -1 ≤ z.toInt) n a H) (hB286 : ∀ n G a H, B 286 n G a H ↔ jAr (dC, dI) (ca 1) (fun j z => (0 ≤ z.toInt ∨ z.toInt = -3)) n a H) (hB287 : ∀ n G a H, B 287 n G a H ↔ jAr (dC, dI) (ca 1) (fun j z => 0 ≤ z.toInt ∧ z.toInt ≤ 65535) n a H) (hB288 : ∀ n G a H, B 288 n G a H ↔ jAr (dC, dI) (ca 1) (fun j z => 0 ≤ z.toInt ∧ z.toInt ≤ 160) n a H) (hB313 : ∀ n G a H, B 313 n G a H ↔ jAq (dC, dI) (ca 8) (jQk 280 80) n G a H) (G0 : jT) (H0 : Heap) (r0 : Nat) (r1 : Nat) (r2 : Nat) (pc : Int32) (pa : Nat) (n_pa : Nat) (LC LS : Nat) : Met l yX7_proof (jw yX7_proof cX7_proof 6 none) ({ frames := 6, cells := LC - H0.size, slots := LS - jTot H0, locals := 194 }) (va_Pc [.ref r0, .ref r1, .ref r2] (fun U => U.heap = H0 ∧ jX B base G0 [] H0 ∧ jG dC dI ca base U ∧ jK2 dC dI ca U ∧ jK5 dC dI ca U ∧ G0 r2 = some (2, 0) ∧ G0 r1 = some (11, 0) ∧ G0 r0 = some (9, 0) ∧ G0 pa = some (196, n_pa) ∧ jP (dC, dI) G0 H0 [(r2, 2, 1, .int pc), (r2, 2, 0, .ref pa)] ∧ H0.size + (1048576 - n_pa) / 16 + 1 ≤ LC ∧ jTot H0 + 2 * (1048576 - n_pa) ≤ LS ∧ 0 ≤ pc.toInt ∧ pc.toInt ≤ n_pa ∧ 16 ≤ n_pa ∧ n_pa ≤ 1048576 ∧ jPw n_pa)) (va_Qv (S := Int32 × Nat × Nat × jT) (fun u => 0 ≤ u.1.toInt ∧ u.1.toInt ≤ u.2.2.1 ∧ n_pa ≤ u.2.2.1 ∧ u.2.2.1 ≤ 1048576 ∧ jPw u.2.2.1) (fun u t => jRa (dC, dI) B base G0 u.2.2.2 EX7_proof H0 ((u.2.2.1 - n_pa) / 16) (2 * (u.2.2.1 - n_pa)) [(r2, 2, 1, .int u.1), (r2, 2, 0, .ref u.2.1)] t.heap ∧ u.2.2.2 u.2.1 = some (196, u.2.2.1) ∧ (jNk [0, 1, 2, 3, 4, 5, 6, 7, 8, 9, 10, 11, 12, 13, 14, 15, 16, 17, 175]) G0 u.2.2.2 ∧ jOw (dC, dI) G0 2 r2 H0 t.heap) (jA base)) (LC - H0.size) (LS - jTot H0) (jA base) := by
  refine Met.ofW (cc := cX7_proof) (maxL := 6) (ret := none) (by decide) rfl ?_
  intro p e s m args below meth c s₁ Bd hml hv
  obtain ⟨rfl, hH0, hX, hG, hK2, hK5, hg_r2, hg_r1, hg_r0, hg_pa, hP0, hLC0, hLS0, hp0, hp1, hp2, hp3, hp4⟩ := hv
  have hK := hG.1
  have hx := Bd.exec
  have hb := Bd.bytes
  have hr := Bd.returns
  have hts := atoms_spec (ws := (jw yX7_proof cX7_proof 6 none)) Bd.pre
  have htw : ∀ w ∈ jWl, w.before _ s = true := fun w h => hts w (List.mem_cons_of_mem _ h)
  have hown : s.vm.findClass RX7 = some m.cls := findClass_of_methodNamed Bd.named
  have hlocks := Bd.notSynchronized
  obtain ⟨Q, hQ⟩ : ∃ Q, Q = MQ below (va_Qv (S := Int32 × Nat × Nat × jT) (fun u => 0 ≤ u.1.toInt ∧ u.1.toInt ≤ u.2.2.1 ∧ n_pa ≤ u.2.2.1 ∧ u.2.2.1 ≤ 1048576 ∧ jPw u.2.2.1) (fun u t => jRa (dC, dI) B base G0 u.2.2.2 EX7_proof H0 ((u.2.2.1 - n_pa) / 16) (2 * (u.2.2.1 - n_pa)) [(r2, 2, 1, .int u.1), (r2, 2, 0, .ref u.2.1)] t.heap ∧ u.2.2.2 u.2.1 = some (196, u.2.2.1) ∧ (jNk [0, 1, 2, 3, 4, 5, 6, 7, 8, 9, 10, 11, 12, 13, 14, 15, 16, 17, 175]) G0 u.2.2.2 ∧ jOw (dC, dI) G0 2 r2 H0 t.heap) (jA base)) ([.ref r0, .ref r1, .ref r2] : List Value).toArray s (LC - H0.size) (LS - jTot H0) (jA base) := ⟨_, rfl⟩
  rw [← hQ]
  have hl := lv_entry ([.ref r0, .ref r1, .ref r2]) (n := 6) (Nat.le_of_ble_eq_true rfl)
  rw [lg_entry_eq]
  generalize (lg_sl ([.ref r0, .ref r1, .ref r2]) ++ List.replicate (6 - (lg_sl ([.ref r0, .ref r1, .ref r2])).length) Slot.unset).toArray = ls at hl ⊢
  have hl : lv_has ls 6 [(0, .ref r0), (1, .ref r1), (2, .ref r2)] := hl
  generalize hR : (headSpec (jw yX7_proof cX7_proof 6 none) ({ frames := 6, cells := LC - H0.size, slots := LS - jTot H0, locals := 194 })).room = R
  subst hH0
  have hh : jSt (dC, dI) B base G0 G0 EX7_proof s.heap 0 0 [(r2, 2, 1, .int pc), (r2, 2, 0, .ref pa)] [] [] s.heap [] := jSt.start hX hP0 jMc.nil jIs.nil
  clear hX hP0
  have hk0 : (0 : Int32).toInt = 0 := by decide
  have hk1 : (1 : Int32).toInt = 1 := by decide
  have hk32 : (32 : Int32).toInt = 32 := by decide
  have hk34 : (34 : Int32).toInt = 34 := by decide
  have hly_5_0 := htw (u_lay RX3 TX3 0) (jWc_wsX30 _ (u_in_lay (by decide)))
  have hly_5_1 := htw (u_lay RX3 TX3 1) (jWc_wsX30 _ (u_in_lay (by decide)))
  have hly_5_2 := htw (u_lay RX3 TX3 2) (jWc_wsX30 _ (u_in_lay (by decide)))
  have hly_5_3 := htw (u_lay RX3 TX3 3) (jWc_wsX30 _ (u_in_lay (by decide)))
  have hly_9_0 := htw (u_lay RX7 TX7 0) (jWc_wsX70 _ (u_in_lay (by decide)))
  have hly_11_6 := htw (u_lay RX9 TX9 6) (jWc_wsX90 _ (u_in_lay (by decide)))
  have hly_11_8 := htw (u_lay RX9 TX9 8) (jWc_wsX90 _ (u_in_lay (by decide)))
  have hlk_25 := (htw (.fieldLink RX7 25 "ProofServer$State" "lemma" "I") (jWr_33 _ (List.mem_of_getElem? (i := 1) rfl)))
  obtain ⟨str31, rstr31, hstr310⟩ := hG.str (o := RX7) (k := 31) (tx := "null") (List.mem_of_getElem? (i := 1010) (by decide +kernel))
  have hstr31 : jStr base str31 4 s s.heap := hstr310
  obtain ⟨str39, rstr39, hstr390⟩ := hG.str (o := RX7) (k := 39) (tx := "{\"proof\":\"") (List.mem_of_getElem? (i := 1015) (by decide +kernel))
  have hstr39 : jStr base str39 10 s s.heap := hstr390
  have hlk_21 := (htw (.fieldLink RX7 21 "ProofServer$Printer" "names" "LProofServer$Names;") (jWr_9 _ (List.mem_of_getElem? (i := 10) rfl)))
  obtain ⟨str47, rstr47, hstr470⟩ := hG.str (o := RX7) (k := 47) (tx := "\",\"goals\":[") (List.mem_of_getElem? (i := 1016) (by decide +kernel))
  have hstr47 : jStr base str47 11 s s.heap := hstr470
  have hlk_49 := (htw (.fieldLink RX7 49 "ProofServer$State" "goals" "[LProofServer$Goal;") (jWr_33 _ (List.mem_of_getElem? (i := 2) rfl)))
  obtain ⟨str53, rstr53, hstr530⟩ := hG.str (o := RX7) (k := 53) (tx := ",\"") (List.mem_of_getElem? (i := 1017) (by decide +kernel))
  have hstr53 : jStr base str53 2 s s.heap := hstr530
  obtain ⟨str55, rstr55, hstr550⟩ := hG.str (o := RX7) (k := 55) (tx := "\"") (List.mem_of_getElem? (i := 1018) (by decide +kernel))
  have hstr55 : jStr base str55 1 s s.heap := hstr550
  have hlk_57 := (htw (.fieldLink RX7 57 "ProofServer$Goal" "variables" "[I") (jWr_33 _ (List.mem_of_getElem? (i := 3) rfl)))
  have hlk_66 := (htw (.fieldLink RX7 66 "ProofServer$Goal" "names" "[I") (jWr_33 _ (List.mem_of_getElem? (i := 4) rfl)))
  have hlk_68 := (htw (.fieldLink RX7 68 "ProofServer$Goal" "hypotheses" "[[I") (jWr_33 _ (List.mem_of_getElem? (i := 5) rfl)))
  obtain ⟨str72, rstr72, hstr720⟩ := hG.str (o := RX7) (k := 72) (tx := " : ") (List.mem_of_getElem? (i := 1019) (by decide +kernel))
  have hstr72 : jStr base str72 3 s s.heap := hstr720
  obtain ⟨str78, rstr78, hstr780⟩ := hG.str (o := RX7) (k := 78) (tx := ", ") (List.mem_of_getElem? (i := 979) (by decide +kernel))
  have hstr78 : jStr base str78 2 s s.heap := hstr780
  obtain ⟨str80, rstr80, hstr800⟩ := hG.str (o := RX7) (k := 80) (tx := "|- ") (List.mem_of_getElem? (i := 1020) (by decide +kernel))
  have hstr80 : jStr base str80 3 s s.heap := hstr800
  have hlk_82 := (htw (.fieldLink RX7 82 "ProofServer$Goal" "formula" "[I") (jWr_33 _ (List.mem_of_getElem? (i := 6) rfl)))
  obtain ⟨str84, rstr84, hstr840⟩ := hG.str (o := RX7) (k := 84) (tx := "]}") (List.mem_of_getElem? (i := 1021) (by decide +kernel))
  have hstr84 : jStr base str84 2 s s.heap := hstr840
  have hbs : base ≤ s.heap.size := Nat.le_of_lt (Nat.lt_of_le_of_lt (hh.ab hg_r0).1 (hh.ab hg_r0).2)
  have hRc : R.cells = LC - s.heap.size := by rw [← hR]; rfl
  have hRs : R.slots = LS - jTot s.heap := by rw [← hR]; rfl
  have hh_1 := hh.addI (jOw.ie (dC := dC) (dI := dI) (G0 := G0) (k := 2) (r := r2) (H0 := s.heap) (F := [(2, 0), (2, 1)]) (C := RX0) (T := TX0) (N := 2) rfl (by decide) hh.2.2.2.2.1 (jOw.rf))
  clear hh
  refine lv_aload_n hx hb dX7_proof_0 rfl (lv_at hl 1 rfl) ?_
  obtain ⟨v_2, hv_2, hh_3⟩ := hh_1.pin (C := RX9) (T := TX9) (N := 9) hB11 rfl (by decide) hg_r1 (i := 6) (by decide) rfl
  clear hh_1
  obtain ⟨lemma_4, rfl⟩ := hv_2
  refine j7_read hx hb hown hK (C := RX9) (T := TX9) (N := 9) rfl hly_11_6 hlk_25 (hh_3.at 0 rfl) dX7_proof_1 ?_
  refine lv_if_ge (tgt := 14) hx hb dX7_proof_4 (by decide) (fun c_5 => ?_) (fun c_5 => ?_)
  · skip
    have c_5' : lemma_4.toInt ≥ 0 := jb_ge (rfl) ((by decide)) c_5
    refine lv_aload_n hx hb dX7_proof_14 rfl (lv_at hl 2 rfl) ?_
    refine va_ldcS hx hb hown rstr39 dX7_proof_15 ?_
    have hsz_6 := hh_3.2.2.2.2.2.1
    have htt_6 := hh_3.2.2.2.2.2.2.1
    refine W.room (fun hrc_6 hrs_6 => ?_)
    refine va_callv (A0 := jA base) (H0 := s.heap) (va_runV (As := [.ref str39]) (rest := []) ⟨hx, hb, hml, hown, hts⟩ (uX0_text l dC dI ca base B hB hAp hB2 hB196 G0 s.heap r2 str39 10 pc pa n_pa LC LS) (cwV 1 hts (jgV (jWr_31 _ (List.mem_of_getElem? (i := 16) rfl)) (jWr_25 _ (List.mem_of_getElem? (i := 22) rfl)) (jWr_25 _ (List.mem_of_getElem? (i := 23) rfl)) (jWr_1 _ (List.mem_of_getElem? (i := 14) rfl)) (jWr_26 _ (List.mem_of_getElem? (i := 0) rfl))) rfl rfl rfl (by decide +kernel) ⟨by rw [← hR]; exact Nat.le_of_ble_eq_true rfl, by rw [← hR]; exact Nat.le_of_ble_eq_true rfl⟩) ⟨fun a U g mk q => by obtain ⟨q0, q1, q2, qK, q10, q11, q12, q13, q14⟩ := q; exact ⟨q0, q1, q2, jG.calling g mk a qK, (q10.moved (Vm.Alike.refl U.vm)), q11, q12, q13, q14⟩, hh_3.recv (C := RX0) (T := TX0) (N := 2) hB2 rfl (by decide) hg_r2 hK, fun U hU hW => ⟨rfl, hU, hh_3.2.1, hG.step hW hU hh_3.1, (hstr39.moved hW.alike).kept hh_3.1.2.1, hg_r2, hg_pa, (hh_3.2.2.1.sub (L1 := [(r2, 2, 1, .int pc), (r2, 2, 0, .ref pa)]) [1, 2] rfl), (by omega), (by omega), ⟨(by first | omega | rfl | assumption | fail), (by first | omega | rfl | assumption | fail), (by first | omega | rfl | assumption | fail), (by first | omega | rfl | assumption | fail), (by first | assumption | fail | omega), (by first | omega | rfl | assumption | fail)⟩⟩⟩ rfl rfl hl.1 rfl (lv_room (Nat.le_of_ble_eq_true rfl)) dX7_proof_17 ⟨by rw [hRc]; omega, by rw [hRs]; omega⟩) hh_3.1 (fun q _ h => h) (fun q h => h) (fun u_6 t_6 H_6 locs_6 ht_6 hvm_6 hr_7 hb_6 hz_6 hk_6 hS_6 => ?_)
    obtain ⟨qc_6, qa_6, m_qa_6, G_6⟩ := u_6
    rw [ht_6] at hb_6
    simp only at hb_6
    obtain ⟨⟨hb_61, hb_62, hb_63, hb_64, hb_65, hb_66⟩, hgq_6_0, hN_6, hbO_6⟩ := hb_6
    have hh_6 : jSt (dC, dI) B base G0 G_6 EX7_proof s.heap (0 + ((m_qa_6 - n_pa) / 16)) (0 + (2 * (m_qa_6 - n_pa))) [(r2, 2, 1, .int qc_6), (r2, 2, 0, .ref qa_6), (r1, 11, 6, .int lemma_4)] [] [] H_6 locs_6 := (hh_3.callG hb_61 hb_62 hb_63 hb_64 hb_65 hS_6 rfl (L1 := [(r1, 11, 6, .int lemma_4)]) [0] rfl rfl (M1 := []) [] rfl rfl (I1 := []) [] rfl rfl).more hb_66
    have hNn_6 : (jNk [0, 1, 2, 3, 4, 5, 6, 7, 8, 9, 10, 11, 12, 13, 14, 15, 16, 17, 175]) G0 G_6 := (jNk.rf).tr hN_6
    have hg_8 := hb_62 _ _ hg_r0
    have hg_9 := hb_62 _ _ hg_r1
    have hg_10 := hb_62 _ _ hg_r2
    have hd_11 := jOw.tr (hh_3.iv 0 rfl) hh_3.2.2.2.2.1 hbO_6
    have hh_12 := hh_6.addI (jOw.ie (dC := dC) (dI := dI) (G0 := G0) (k := 2) (r := r2) (H0 := s.heap) (F := [(2, 0), (2, 1)]) (C := RX0) (T := TX0) (N := 2) rfl (by decide) hh_6.2.2.2.2.1 (hd_11))
    clear hh_6
    try simp only at hr_7
    obtain ⟨hr_7_0, hr_7_1, hr_7_2, hr_7_3, hr_7_4⟩ := hr_7
    have hh_13 := hh_12.wk (zc1 := (m_qa_6 - n_pa) / 16) (zs1 := 2 * (m_qa_6 - n_pa)) (by omega) (by omega)
    clear hh_12
    try clear hsz_6 htt_6 hrc_6 hrs_6
    try clear hb_64 hb_65
    refine lv_aload_n hx hb dX7_proof_20 rfl (lv_at hl 0 rfl) ?_
    obtain ⟨v_14, hv_14, hh_15⟩ := hh_13.pin (C := RX7) (T := TX7) (N := 5) hB9 rfl (by decide) hg_8 (i := 0) (by decide) rfl
    clear hh_13
    obtain ⟨names_16, rfl, hg_names_16⟩ := hv_14
    refine j7_read hx hb hown hK (C := RX7) (T := TX7) (N := 5) rfl hly_9_0 hlk_21 (hh_15.at 0 rfl) dX7_proof_21 ?_
    refine lv_aload_n hx hb dX7_proof_24 rfl (lv_at hl 1 rfl) ?_
    refine j7_read hx hb hown hK (C := RX9) (T := TX9) (N := 9) rfl hly_11_6 hlk_25 (hh_15.at 3 rfl) dX7_proof_25 ?_
    refine lv_iconst (v := 0) hx hb dX7_proof_28 (by decide) ?_
    refine lv_aload_n hx hb dX7_proof_29 rfl (lv_at hl 2 rfl) ?_
    have hsz_17 := hh_15.2.2.2.2.2.1
    have htt_17 := hh_15.2.2.2.2.2.2.1
    refine W.room (fun hrc_17 hrs_17 => ?_)
    refine va_callv (A0 := jA base) (H0 := s.heap) (va_runV (As := [.int lemma_4, .int 0, .ref r2]) (rest := []) ⟨hx, hb, hml, hown, hts⟩ (uX6_write l dC dI ca base B hB hAp hB2 hB8 hB102 hB132 hB196 G_6 H_6 names_16 lemma_4 0 r2 qc_6 qa_6 m_qa_6 LC LS) (cwV 3 hts (jgV (jWr_31 _ (List.mem_of_getElem? (i := 17) rfl)) (jWr_31 _ (List.mem_of_getElem? (i := 18) rfl)) (jWr_31 _ (List.mem_of_getElem? (i := 19) rfl)) (jWr_4 _ (List.mem_of_getElem? (i := 10) rfl)) (jWr_31 _ (List.mem_of_getElem? (i := 20) rfl))) rfl rfl rfl (by decide +kernel) ⟨by rw [← hR]; exact Nat.le_of_ble_eq_true rfl, by rw [← hR]; exact Nat.le_of_ble_eq_true rfl⟩) ⟨fun a U g mk q => by obtain ⟨q0, q1, q2, qK, q10, q11, q12, q13, q14⟩ := q; exact ⟨q0, q1, q2, jG.calling g mk a qK, q10, q11, q12, q13, q14⟩, hh_15.recv (C := RX6) (T := TX6) (N := 4) hB8 rfl (by decide) hg_names_16 hK, fun U hU hW => ⟨rfl, hU, hh_15.2.1, hG.step hW hU hh_15.1, hg_10, hg_names_16, hgq_6_0, (hh_15.2.2.1.sub (L1 := [(r2, 2, 1, .int qc_6), (r2, 2, 0, .ref qa_6)]) [1, 2] rfl), (by omega), (by omega), ⟨(by first | omega | rfl | assumption | fail), (by first | omega | rfl | assumption | fail), (by first | omega | rfl | assumption | fail), (by first | omega | rfl | assumption | fail), (by first | assumption | fail | omega)⟩⟩⟩ rfl rfl hl.1 rfl (lv_room (Nat.le_of_ble_eq_true rfl)) dX7_proof_30 ⟨by rw [hRc]; omega, by rw [hRs]; omega⟩) hh_15.1 (fun q _ h => h) (fun q h => h) (fun u_17 t_17 H_17 locs_17 ht_17 hvm_17 hr_18 hb_17 hz_17 hk_17 hS_17 => ?_)
    obtain ⟨qc_17, qa_17, m_qa_17, G_17⟩ := u_17
    rw [ht_17] at hb_17
    simp only at hb_17
    obtain ⟨⟨hb_171, hb_172, hb_173, hb_174, hb_175, hb_176⟩, hgq_17_0, hN_17, hbO_17⟩ := hb_17
    have hh_17 : jSt (dC, dI) B base G0 G_17 EX7_proof s.heap (((m_qa_6 - n_pa) / 16) + ((m_qa_17 - m_qa_6) / 16)) ((2 * (m_qa_6 - n_pa)) + (2 * (m_qa_17 - m_qa_6))) [(r2, 2, 1, .int qc_17), (r2, 2, 0, .ref qa_17), (r0, 9, 0, .ref names_16), (r1, 11, 6, .int lemma_4)] [] [] H_17 locs_17 := (hh_15.callG hb_171 hb_172 hb_173 hb_174 hb_175 hS_17 rfl (L1 := [(r0, 9, 0, .ref names_16), (r1, 11, 6, .int lemma_4)]) [0, 3] rfl rfl (M1 := []) [] rfl rfl (I1 := []) [] rfl rfl).more hb_176
    have hNn_17 : (jNk [0, 1, 2, 3, 4, 5, 6, 7, 8, 9, 10, 11, 12, 13, 14, 15, 16, 17, 175]) G0 G_17 := (hNn_6).tr hN_17
    have hg_19 := hb_172 _ _ hg_8
    have hg_20 := hb_172 _ _ hg_9
    have hg_21 := hb_172 _ _ hg_10
    have hg_22 := hb_172 _ _ hg_names_16
    have hd_23 := jOw.tr (hh_15.iv 0 rfl) hh_15.2.2.2.2.1 hbO_17
    have hh_24 := hh_17.addI (jOw.ie (dC := dC) (dI := dI) (G0 := G0) (k := 2) (r := r2) (H0 := s.heap) (F := [(2, 0), (2, 1)]) (C := RX0) (T := TX0) (N := 2) rfl (by decide) hh_17.2.2.2.2.1 (hd_23))
    clear hh_17
    try simp only at hr_18
    obtain ⟨hr_18_0, hr_18_1, hr_18_2, hr_18_3, hr_18_4⟩ := hr_18
    have hh_25 := hh_24.wk (zc1 := (m_qa_17 - n_pa) / 16) (zs1 := 2 * (m_qa_17 - n_pa)) (by omega) (by omega)
    clear hh_24
    try clear hsz_17 htt_17 hrc_17 hrs_17
    try clear hb_174 hb_175
    refine lv_aload_n hx hb dX7_proof_33 rfl (lv_at hl 2 rfl) ?_
    refine va_ldcS hx hb hown rstr47 dX7_proof_34 ?_
    have hsz_26 := hh_25.2.2.2.2.2.1
    have htt_26 := hh_25.2.2.2.2.2.2.1
    refine W.room (fun hrc_26 hrs_26 => ?_)
    refine va_callv (A0 := jA base) (H0 := s.heap) (va_runV (As := [.ref str47]) (rest := []) ⟨hx, hb, hml, hown, hts⟩ (uX0_text l dC dI ca base B hB hAp hB2 hB196 G_17 H_17 r2 str47 11 qc_17 qa_17 m_qa_17 LC LS) (cwV 1 hts (jgV (jWr_31 _ (List.mem_of_getElem? (i := 16) rfl)) (jWr_25 _ (List.mem_of_getElem? (i := 22) rfl)) (jWr_25 _ (List.mem_of_getElem? (i := 23) rfl)) (jWr_1 _ (List.mem_of_getElem? (i := 14) rfl)) (jWr_26 _ (List.mem_of_getElem? (i := 0) rfl))) rfl rfl rfl (by decide +kernel) ⟨by rw [← hR]; exact Nat.le_of_ble_eq_true rfl, by rw [← hR]; exact Nat.le_of_ble_eq_true rfl⟩) ⟨fun a U g mk q => by obtain ⟨q0, q1, q2, qK, q10, q11, q12, q13, q14⟩ := q; exact ⟨q0, q1, q2, jG.calling g mk a qK, (q10.moved (Vm.Alike.refl U.vm)), q11, q12, q13, q14⟩, hh_25.recv (C := RX0) (T := TX0) (N := 2) hB2 rfl (by decide) hg_21 hK, fun U hU hW => ⟨rfl, hU, hh_25.2.1, hG.step hW hU hh_25.1, (hstr47.moved hW.alike).kept hh_25.1.2.1, hg_21, hgq_17_0, (hh_25.2.2.1.sub (L1 := [(r2, 2, 1, .int qc_17), (r2, 2, 0, .ref qa_17)]) [0, 1] rfl), (by omega), (by omega), ⟨(by first | omega | rfl | assumption | fail), (by first | omega | rfl | assumption | fail), (by first | omega | rfl | assumption | fail), (by first | omega | rfl | assumption | fail), (by first | assumption | fail | omega), (by first | omega | rfl | assumption | fail)⟩⟩⟩ rfl rfl hl.1 rfl (lv_room (Nat.le_of_ble_eq_true rfl)) dX7_proof_36 ⟨by rw [hRc]; omega, by rw [hRs]; omega⟩) hh_25.1 (fun q _ h => h) (fun q h => h) (fun u_26 t_26 H_26 locs_26 ht_26 hvm_26 hr_27 hb_26 hz_26 hk_26 hS_26 => ?_)
    obtain ⟨qc_26, qa_26, m_qa_26, G_26⟩ := u_26
    rw [ht_26] at hb_26
    simp only at hb_26
    obtain ⟨⟨hb_261, hb_262, hb_263, hb_264, hb_265, hb_266⟩, hgq_26_0, hN_26, hbO_26⟩ := hb_26
    have hh_26 : jSt (dC, dI) B base G0 G_26 EX7_proof s.heap (((m_qa_17 - n_pa) / 16) + ((m_qa_26 - m_qa_17) / 16)) ((2 * (m_qa_17 - n_pa)) + (2 * (m_qa_26 - m_qa_17))) [(r2, 2, 1, .int qc_26), (r2, 2, 0, .ref qa_26), (r0, 9, 0, .ref names_16), (r1, 11, 6, .int lemma_4)] [] [] H_26 locs_26 := (hh_25.callG hb_261 hb_262 hb_263 hb_264 hb_265 hS_26 rfl (L1 := [(r0, 9, 0, .ref names_16), (r1, 11, 6, .int lemma_4)]) [2, 3] rfl rfl (M1 := []) [] rfl rfl (I1 := []) [] rfl rfl).more hb_266
    have hNn_26 : (jNk [0, 1, 2, 3, 4, 5, 6, 7, 8, 9, 10, 11, 12, 13, 14, 15, 16, 17, 175]) G0 G_26 := (hNn_17).tr hN_26
    have hg_28 := hb_262 _ _ hg_19
    have hg_29 := hb_262 _ _ hg_20
    have hg_30 := hb_262 _ _ hg_21
    have hg_31 := hb_262 _ _ hg_22
    have hd_32 := jOw.tr (hh_25.iv 0 rfl) hh_25.2.2.2.2.1 hbO_26
    have hh_33 := hh_26.addI (jOw.ie (dC := dC) (dI := dI) (G0 := G0) (k := 2) (r := r2) (H0 := s.heap) (F := [(2, 0), (2, 1)]) (C := RX0) (T := TX0) (N := 2) rfl (by decide) hh_26.2.2.2.2.1 (hd_32))
    clear hh_26
    try simp only at hr_27
    obtain ⟨hr_27_0, hr_27_1, hr_27_2, hr_27_3, hr_27_4⟩ := hr_27
    have hh_34 := hh_33.wk (zc1 := (m_qa_26 - n_pa) / 16) (zs1 := 2 * (m_qa_26 - n_pa)) (by omega) (by omega)
    clear hh_33
    try clear hsz_26 htt_26 hrc_26 hrs_26
    try clear hb_264 hb_265
    refine lv_iconst (v := 0) hx hb dX7_proof_39 (by decide) ?_
    refine lv_istore_n (lv' := [(3, .int 0), (0, .ref r0), (1, .ref r1), (2, .ref r2)]) hx hb dX7_proof_40 rfl hl (by decide) rfl (fun ls hl => ?_)
    have L41 : ∀ (N : Nat) (Gx_35 : jT) (zcx_35 : Nat) (zsx_35 : Nat) (v3_35 : Int32) (wc_35 : Int32) (wr_35 : Nat) (m_wr_35 : Nat) (H_35 : Heap) (locs_35 : List Loc), jSt (dC, dI) B base G0 Gx_35 EX7_proof s.heap zcx_35 zsx_35 [(r2, 2, 1, .int wc_35), (r2, 2, 0, .ref wr_35), (r0, 9, 0, .ref names_16), (r1, 11, 6, .int lemma_4)] [] [([(2, 0), (2, 1)], jOw (dC, dI) G0 2 r2 s.heap)] H_35 locs_35 → (jNk [0, 1, 2, 3, 4, 5, 6, 7, 8, 9, 10, 11, 12, 13, 14, 15, 16, 17, 175]) G0 Gx_35 → jLe G_26 Gx_35 → Gx_35 wr_35 = some (196, m_wr_35) → (0 ≤ wc_35.toInt ∧ wc_35.toInt ≤ m_wr_35 ∧ n_pa ≤ m_wr_35 ∧ m_wr_35 ≤ 1048576 ∧ jPw m_wr_35 ∧ zcx_35 ≤ (m_wr_35 - n_pa) / 16 ∧ zsx_35 ≤ 2 * (m_wr_35 - n_pa) ∧ 0 ≤ v3_35.toInt ∧ v3_35.toInt ≤ 6) → (7 - v3_35.toInt : Int) < N → ∀ ls : Array Slot, lv_has ls 6 [(0, .ref r0), (1, .ref r1), (2, .ref r2), (3, .int v3_35)] → W p l e R s m ([.ref r0, .ref r1, .ref r2] : List Value).toArray below meth c H_35 locs_35 zcx_35 zsx_35 Q (F0 m 41 ls []) := by
      intro N
      induction N with
      | zero => intro Gx_35 zcx_35 zsx_35 v3_35 wc_35 wr_35 m_wr_35 H_35 locs_35 hh_35 hN_35 hle_35 hg_wr_35 hi_35 hm; exact absurd hm (by omega)
      | succ N L41 =>
        intro Gx_35 zcx_35 zsx_35 v3_35 wc_35 wr_35 m_wr_35 H_35 locs_35 hh_35 hN_35 hle_35 hg_wr_35 hi_35 hm_35 ls hl
        have hg_36 := hle_35 _ _ hg_28
        have hg_37 := hle_35 _ _ hg_29
        have hg_38 := hle_35 _ _ hg_30
        have hg_39 := hle_35 _ _ hg_31
        obtain ⟨hi_35_0, hi_35_1, hi_35_2, hi_35_3, hi_35_4, hi_35_5, hi_35_6, hi_35_7, hi_35_8⟩ := hi_35
        refine lv_iload_n hx hb dX7_proof_41 rfl (lv_at hl 3 rfl) ?_
        refine lv_aload_n hx hb dX7_proof_42 rfl (lv_at hl 1 rfl) ?_
        obtain ⟨v_40, hv_40, hh_41⟩ := hh_35.pin (C := RX9) (T := TX9) (N := 9) hB11 rfl (by decide) hg_37 (i := 8) (by decide) rfl
        clear hh_35
        obtain ⟨goals_42, ngoals_42, rfl, hg_goals_42, hn_goals_42⟩ := hv_40
        refine j7_read hx hb hown hK (C := RX9) (T := TX9) (N := 9) rfl hly_11_8 hlk_49 (hh_41.at 0 rfl) dX7_proof_43 ?_
        refine j7_qlen hx hb hK2 hh_41 hB214 3 rfl (by decide) hg_goals_42 (by omega) dX7_proof_46 (fun z_43 hz_43 => ?_)
        refine lv_icmp_ge (tgt := 217) hx hb dX7_proof_47 (by decide) (fun c_44 => ?_) (fun c_44 => ?_)
        · skip
          have c_44' : v3_35.toInt ≥ z_43.toInt := jb_ge (rfl) (rfl) c_44
          refine lv_aload_n hx hb dX7_proof_217 rfl (lv_at hl 2 rfl) ?_
          refine va_ldcS hx hb hown rstr84 dX7_proof_218 ?_
          have hsz_45 := hh_41.2.2.2.2.2.1
          have htt_45 := hh_41.2.2.2.2.2.2.1
          refine W.room (fun hrc_45 hrs_45 => ?_)
          refine va_callv (A0 := jA base) (H0 := s.heap) (va_runV (As := [.ref str84]) (rest := []) ⟨hx, hb, hml, hown, hts⟩ (uX0_text l dC dI ca base B hB hAp hB2 hB196 Gx_35 H_35 r2 str84 2 wc_35 wr_35 m_wr_35 LC LS) (cwV 1 hts (jgV (jWr_31 _ (List.mem_of_getElem? (i := 16) rfl)) (jWr_25 _ (List.mem_of_getElem? (i := 22) rfl)) (jWr_25 _ (List.mem_of_getElem? (i := 23) rfl)) (jWr_1 _ (List.mem_of_getElem? (i := 14) rfl)) (jWr_26 _ (List.mem_of_getElem? (i := 0) rfl))) rfl rfl rfl (by decide +kernel) ⟨by rw [← hR]; exact Nat.le_of_ble_eq_true rfl, by rw [← hR]; exact Nat.le_of_ble_eq_true rfl⟩) ⟨fun a U g mk q => by obtain ⟨q0, q1, q2, qK, q10, q11, q12, q13, q14⟩ := q; exact ⟨q0, q1, q2, jG.calling g mk a qK, (q10.moved (Vm.Alike.refl U.vm)), q11, q12, q13, q14⟩, hh_41.recv (C := RX0) (T := TX0) (N := 2) hB2 rfl (by decide) hg_38 hK, fun U hU hW => ⟨rfl, hU, hh_41.2.1, hG.step hW hU hh_41.1, (hstr84.moved hW.alike).kept hh_41.1.2.1, hg_38, hg_wr_35, (hh_41.2.2.1.sub (L1 := [(r2, 2, 1, .int wc_35), (r2, 2, 0, .ref wr_35)]) [1, 2] rfl), (by omega), (by omega), ⟨(by first | omega | rfl | assumption | fail), (by first | omega | rfl | assumption | fail), (by first | omega | rfl | assumption | fail), (by first | omega | rfl | assumption | fail), (by first | assumption | fail | omega), (by first | omega | rfl | assumption | fail)⟩⟩⟩ rfl rfl hl.1 rfl (lv_room (Nat.le_of_ble_eq_true rfl)) dX7_proof_220 ⟨by rw [hRc]; omega, by rw [hRs]; omega⟩) hh_41.1 (fun q _ h => h) (fun q h => h) (fun u_45 t_45 H_45 locs_45 ht_45 hvm_45 hr_46 hb_45 hz_45 hk_45 hS_45 => ?_)
          obtain ⟨qc_45, qa_45, m_qa_45, G_45⟩ := u_45
          rw [ht_45] at hb_45
          simp only at hb_45
          obtain ⟨⟨hb_451, hb_452, hb_453, hb_454, hb_455, hb_456⟩, hgq_45_0, hN_45, hbO_45⟩ := hb_45
          have hh_45 : jSt (dC, dI) B base G0 G_45 EX7_proof s.heap (zcx_35 + ((m_qa_45 - m_wr_35) / 16)) (zsx_35 + (2 * (m_qa_45 - m_wr_35))) [(r2, 2, 1, .int qc_45), (r2, 2, 0, .ref qa_45), (r1, 11, 8, .ref goals_42), (r0, 9, 0, .ref names_16), (r1, 11, 6, .int lemma_4)] [] [] H_45 locs_45 := (hh_41.callG hb_451 hb_452 hb_453 hb_454 hb_455 hS_45 rfl (L1 := [(r1, 11, 8, .ref goals_42), (r0, 9, 0, .ref names_16), (r1, 11, 6, .int lemma_4)]) [0, 3, 4] rfl rfl (M1 := []) [] rfl rfl (I1 := []) [] rfl rfl).more hb_456
          have hNn_45 : (jNk [0, 1, 2, 3, 4, 5, 6, 7, 8, 9, 10, 11, 12, 13, 14, 15, 16, 17, 175]) G0 G_45 := (hN_35).tr hN_45
          have hg_47 := hb_452 _ _ hg_36
          have hg_48 := hb_452 _ _ hg_37
          have hg_49 := hb_452 _ _ hg_38
          have hg_50 := hb_452 _ _ hg_goals_42
          have hg_51 := hb_452 _ _ hg_39
          have hd_52 := jOw.tr (hh_41.iv 0 rfl) hh_41.2.2.2.2.1 hbO_45
          have hh_53 := hh_45.addI (jOw.ie (dC := dC) (dI := dI) (G0 := G0) (k := 2) (r := r2) (H0 := s.heap) (F := [(2, 0), (2, 1)]) (C := RX0) (T := TX0) (N := 2) rfl (by decide) hh_45.2.2.2.2.1 (hd_52))
          clear hh_45
          try simp only at hr_46
          obtain ⟨hr_46_0, hr_46_1, hr_46_2, hr_46_3, hr_46_4⟩ := hr_46
          have hh_54 := hh_53.wk (zc1 := (m_qa_45 - n_pa) / 16) (zs1 := 2 * (m_qa_45 - n_pa)) (by omega) (by omega)
          clear hh_53
          try clear hsz_45 htt_45 hrc_45 hrs_45
          try clear hb_454 hb_455
          have hsz_55 := hh_54.2.2.2.2.2.1
          have htt_55 := hh_54.2.2.2.2.2.2.1
          refine W.room (fun hrc_55 hrs_55 => ?_)
          refine W.widen (k := LC - s.heap.size) (n := LS - jTot s.heap) (by omega) (by omega) ?_
          rw [hQ]
          exact W.vret hx hb hr (fun t ht hW => ⟨⟨(qc_45, qa_45, m_qa_45, G_45), rfl, by (try dsimp only); exact ⟨(by first | omega | rfl | assumption | fail), (by first | omega | rfl | assumption | fail), (by first | omega | rfl | assumption | fail), (by first | omega | rfl | assumption | fail), (by first | assumption | fail | omega)⟩, ⟨hh_54.ra (by first | omega | (simp only; omega)) (by first | omega | (simp only; omega)) (M1 := [(r2, 2, 1, .int qc_45), (r2, 2, 0, .ref qa_45)]) [0, 1] rfl ht, hgq_45_0, hNn_45, by rw [ht]; exact hh_54.iv 0 rfl⟩⟩, by rw [ht]; try exact hh_54.1.1, fun q h9 hq => by rw [ht]; try exact hh_54.1.2.1 q h9 hq⟩) hh_54.1.2.2 dX7_proof_223
        · skip
          have c_44' : v3_35.toInt < z_43.toInt := jb_ge_n (rfl) (rfl) c_44
          refine lv_aload_n hx hb dX7_proof_50 rfl (lv_at hl 1 rfl) ?_
          refine j7_read hx hb hown hK (C := RX9) (T := TX9) (N := 9) rfl hly_11_8 hlk_49 (hh_41.at 0 rfl) dX7_proof_51 ?_
          refine lv_iload_n hx hb dX7_proof_54 rfl (lv_at hl 3 rfl) ?_
          refine j7_qald hx hb hK2 hh_41 hB214 3 rfl (by decide) hg_goals_42 (x := v3_35.toInt) (rfl) (by omega) dX7_proof_55 (fun o_56 ho_56 => ?_)
          obtain ⟨el_57, nel_57, rfl, hg_el_57, hm_el_57⟩ := ho_56
          simp only [va_rf]
          refine lv_astore (lv' := [(4, .ref el_57), (0, .ref r0), (1, .ref r1), (2, .ref r2), (3, .int v3_35)]) hx hb dX7_proof_56 hl (by decide) rfl (fun ls hl => ?_)
          obtain ⟨v_58, hv_58, hh_59⟩ := hh_41.pin (C := RX3) (T := TX3) (N := 4) hB5 rfl (by decide) hg_el_57 (i := 2) (by decide) rfl
          obtain ⟨hypotheses_60, khypotheses_60, rfl, hg_hypotheses_60, hhahypotheses_60, hhbhypotheses_60, hhchypotheses_60, hhdhypotheses_60, hhehypotheses_60⟩ := hv_58
          obtain rfl : khypotheses_60 = 313 := hhbhypotheses_60 (by omega)
          refine lv_aload_n hx hb dX7_proof_58 rfl (lv_at hl 3 rfl) ?_
          refine lv_iload_n hx hb dX7_proof_59 rfl (lv_at hl 4 rfl) ?_
          refine lv_if_le (tgt := 68) hx hb dX7_proof_60 (by decide) (fun c_61 => ?_) (fun c_61 => ?_)
          · skip
            have c_61' : v3_35.toInt ≤ 0 := jb_le (rfl) ((by decide)) c_61
            refine va_ldcS hx hb hown rstr55 dX7_proof_68 ?_
            have hsz_62 := hh_59.2.2.2.2.2.1
            have htt_62 := hh_59.2.2.2.2.2.2.1
            refine W.room (fun hrc_62 hrs_62 => ?_)
            refine va_callv (A0 := jA base) (H0 := s.heap) (va_runV (As := [.ref str55]) (rest := []) ⟨hx, hb, hml, hown, hts⟩ (uX0_text l dC dI ca base B hB hAp hB2 hB196 Gx_35 H_35 r2 str55 1 wc_35 wr_35 m_wr_35 LC LS) (cwV 1 hts (jgV (jWr_31 _ (List.mem_of_getElem? (i := 16) rfl)) (jWr_25 _ (List.mem_of_getElem? (i := 22) rfl)) (jWr_25 _ (List.mem_of_getElem? (i := 23) rfl)) (jWr_1 _ (List.mem_of_getElem? (i := 14) rfl)) (jWr_26 _ (List.mem_of_getElem? (i := 0) rfl))) rfl rfl rfl (by decide +kernel) ⟨by rw [← hR]; exact Nat.le_of_ble_eq_true rfl, by rw [← hR]; exact Nat.le_of_ble_eq_true rfl⟩) ⟨fun a U g mk q => by obtain ⟨q0, q1, q2, qK, q10, q11, q12, q13, q14⟩ := q; exact ⟨q0, q1, q2, jG.calling g mk a qK, (q10.moved (Vm.Alike.refl U.vm)), q11, q12, q13, q14⟩, hh_59.recv (C := RX0) (T := TX0) (N := 2) hB2 rfl (by decide) hg_38 hK, fun U hU hW => ⟨rfl, hU, hh_59.2.1, hG.step hW hU hh_59.1, (hstr55.moved hW.alike).kept hh_59.1.2.1, hg_38, hg_wr_35, (hh_59.2.2.1.sub (L1 := [(r2, 2, 1, .int wc_35), (r2, 2, 0, .ref wr_35)]) [2, 3] rfl), (by omega), (by omega), ⟨(by first | omega | rfl | assumption | fail), (by first | omega | rfl | assumption | fail), (by first | omega | rfl | assumption | fail), (by first | omega | rfl | assumption | fail), (by first | assumption | fail | omega), (by first | omega | rfl | assumption | fail)⟩⟩⟩ rfl rfl hl.1 rfl (lv_room (Nat.le_of_ble_eq_true rfl)) dX7_proof_70 ⟨by rw [hRc]; omega, by rw [hRs]; omega⟩) hh_59.1 (fun q _ h => h) (fun q h => h) (fun u_62 t_62 H_62 locs_62 ht_62 hvm_62 hr_63 hb_62 hz_62 hk_62 hS_62 => ?_)
            obtain ⟨qc_62, qa_62, m_qa_62, G_62⟩ := u_62
            rw [ht_62] at hb_62
            simp only at hb_62
            obtain ⟨⟨hb_621, hb_622, hb_623, hb_624, hb_625, hb_626⟩, hgq_62_0, hN_62, hbO_62⟩ := hb_62
            have hh_62 : jSt (dC, dI) B base G0 G_62 EX7_proof s.heap (zcx_35 + ((m_qa_62 - m_wr_35) / 16)) (zsx_35 + (2 * (m_qa_62 - m_wr_35))) [(r2, 2, 1, .int qc_62), (r2, 2, 0, .ref qa_62), (el_57, 5, 2, .ref hypotheses_60), (r1, 11, 8, .ref goals_42), (r0, 9, 0, .ref names_16), (r1, 11, 6, .int lemma_4)] [] [] H_62 locs_62 := (hh_59.callG hb_621 hb_622 hb_623 hb_624 hb_625 hS_62 rfl (L1 := [(el_57, 5, 2, .ref hypotheses_60), (r1, 11, 8, .ref goals_42), (r0, 9, 0, .ref names_16), (r1, 11, 6, .int lemma_4)]) [0, 1, 4, 5] rfl rfl (M1 := []) [] rfl rfl (I1 := []) [] rfl rfl).more hb_626
            have hNn_62 : (jNk [0, 1, 2, 3, 4, 5, 6, 7, 8, 9, 10, 11, 12, 13, 14, 15, 16, 17, 175]) G0 G_62 := (hN_35).tr hN_62
            have hg_64 := hb_622 _ _ hg_el_57
            have hg_65 := hb_622 _ _ hg_36
            have hg_66 := hb_622 _ _ hg_37
            have hg_67 := hb_622 _ _ hg_38
            have hg_68 := hb_622 _ _ hg_hypotheses_60
            have hg_69 := hb_622 _ _ hg_goals_42
            have hg_70 := hb_622 _ _ hg_39
            have hd_71 := jOw.tr (hh_59.iv 0 rfl) hh_59.2.2.2.2.1 hbO_62
            have hh_72 := hh_62.addI (jOw.ie (dC := dC) (dI := dI) (G0 := G0) (k := 2) (r := r2) (H0 := s.heap) (F := [(2, 0), (2, 1)]) (C := RX0) (T := TX0) (N := 2) rfl (by decide) hh_62.2.2.2.2.1 (hd_71))
            clear hh_62
            try simp only at hr_63
            obtain ⟨hr_63_0, hr_63_1, hr_63_2, hr_63_3, hr_63_4⟩ := hr_63
            have hh_73 := hh_72.wk (zc1 := (m_qa_62 - n_pa) / 16) (zs1 := 2 * (m_qa_62 - n_pa)) (by omega) (by omega)
            clear hh_72
            try clear hsz_62 htt_62 hrc_62 hrs_62
            try clear hb_624 hb_625
            refine lv_iconst (v := 0) hx hb dX7_proof_73 (by decide) ?_
            refine lv_istore (lv' := [(5, .int 0), (4, .ref el_57), (0, .ref r0), (1, .ref r1), (2, .ref r2), (3, .int v3_35)]) hx hb dX7_proof_74 hl (by decide) rfl (fun ls hl => ?_)
            have L76 : ∀ (N : Nat) (Gx_74 : jT) (zcx_74 : Nat) (zsx_74 : Nat) (v5_74 : Int32) (wc_74 : Int32) (wr_74 : Nat) (m_wr_74 : Nat) (H_74 : Heap) (locs_74 : List Loc), jSt (dC, dI) B base G0 Gx_74 EX7_proof s.heap zcx_74 zsx_74 [(r2, 2, 1, .int wc_74), (r2, 2, 0, .ref wr_74), (el_57, 5, 2, .ref hypotheses_60), (r1, 11, 8, .ref goals_42), (r0, 9, 0, .ref names_16), (r1, 11, 6, .int lemma_4)] [] [([(2, 0), (2, 1)], jOw (dC, dI) G0 2 r2 s.heap)] H_74 locs_74 → (jNk [0, 1, 2, 3, 4, 5, 6, 7, 8, 9, 10, 11, 12, 13, 14, 15, 16, 17, 175]) G0 Gx_74 → jLe G_62 Gx_74 → Gx_74 wr_74 = some (196, m_wr_74) → (0 ≤ wc_74.toInt ∧ wc_74.toInt ≤ m_wr_74 ∧ n_pa ≤ m_wr_74 ∧ m_wr_74 ≤ 1048576 ∧ jPw m_wr_74 ∧ zcx_74 ≤ (m_wr_74 - n_pa) / 16 ∧ zsx_74 ≤ 2 * (m_wr_74 - n_pa) ∧ 0 ≤ v5_74.toInt ∧ v5_74.toInt ≤ 7) → (8 - v5_74.toInt : Int) < N → ∀ ls : Array Slot, lv_has ls 6 [(0, .ref r0), (1, .ref r1), (2, .ref r2), (3, .int v3_35), (4, .ref el_57), (5, .int v5_74)] → W p l e R s m ([.ref r0, .ref r1, .ref r2] : List Value).toArray below meth c H_74 locs_74 zcx_74 zsx_74 Q (F0 m 76 ls []) := by
              intro N
              induction N with
              | zero => intro Gx_74 zcx_74 zsx_74 v5_74 wc_74 wr_74 m_wr_74 H_74 locs_74 hh_74 hN_74 hle_74 hg_wr_74 hi_74 hm; exact absurd hm (by omega)
              | succ N L76 =>
                intro Gx_74 zcx_74 zsx_74 v5_74 wc_74 wr_74 m_wr_74 H_74 locs_74 hh_74 hN_74 hle_74 hg_wr_74 hi_74 hm_74 ls hl
                have hg_75 := hle_74 _ _ hg_65
                have hg_76 := hle_74 _ _ hg_66
                have hg_77 := hle_74 _ _ hg_67
                have hg_78 := hle_74 _ _ hg_64
                have hg_79 := hle_74 _ _ hg_68
                have hg_80 := hle_74 _ _ hg_69
                have hg_81 := hle_74 _ _ hg_70
                obtain ⟨hi_74_0, hi_74_1, hi_74_2, hi_74_3, hi_74_4, hi_74_5, hi_74_6, hi_74_7, hi_74_8⟩ := hi_74
                refine lv_iload hx hb dX7_proof_76 (lv_at hl 5 rfl) ?_
                refine lv_aload hx hb dX7_proof_78 (lv_at hl 4 rfl) ?_
                obtain ⟨v_82, hv_82, hh_83⟩ := hh_74.pin (C := RX3) (T := TX3) (N := 4) hB5 rfl (by decide) hg_78 (i := 0) (by decide) rfl
                clear hh_74
                obtain ⟨variables_84, nvariables_84, rfl, hg_variables_84, hvavariables_84, hvbvariables_84, hvcvariables_84⟩ := hv_82
                refine j7_read hx hb hown hK (C := RX3) (T := TX3) (N := 4) rfl hly_5_0 hlk_57 (hh_83.at 0 rfl) dX7_proof_80 ?_
                refine j7_len hx hb hK hh_83 hB101 1 rfl (by decide) hg_variables_84 (by omega) dX7_proof_83 (fun z_85 hz_85 => ?_)
                refine lv_icmp_ge (tgt := 116) hx hb dX7_proof_84 (by decide) (fun c_86 => ?_) (fun c_86 => ?_)
                · skip
                  have c_86' : v5_74.toInt ≥ z_85.toInt := jb_ge (rfl) (rfl) c_86
                  refine lv_iconst (v := 0) hx hb dX7_proof_116 (by decide) ?_
                  refine lv_istore (lv' := [(5, .int 0), (0, .ref r0), (1, .ref r1), (2, .ref r2), (3, .int v3_35), (4, .ref el_57)]) hx hb dX7_proof_117 hl (by decide) rfl (fun ls hl => ?_)
                  have L119 : ∀ (N : Nat) (Gx_87 : jT) (zcx_87 : Nat) (zsx_87 : Nat) (v5_87 : Int32) (wc_87 : Int32) (wr_87 : Nat) (m_wr_87 : Nat) (H_87 : Heap) (locs_87 : List Loc), jSt (dC, dI) B base G0 Gx_87 EX7_proof s.heap zcx_87 zsx_87 [(r2, 2, 1, .int wc_87), (r2, 2, 0, .ref wr_87), (el_57, 5, 0, .ref variables_84), (el_57, 5, 2, .ref hypotheses_60), (r1, 11, 8, .ref goals_42), (r0, 9, 0, .ref names_16), (r1, 11, 6, .int lemma_4)] [] [([(2, 0), (2, 1)], jOw (dC, dI) G0 2 r2 s.heap)] H_87 locs_87 → (jNk [0, 1, 2, 3, 4, 5, 6, 7, 8, 9, 10, 11, 12, 13, 14, 15, 16, 17, 175]) G0 Gx_87 → jLe Gx_74 Gx_87 → Gx_87 wr_87 = some (196, m_wr_87) → (0 ≤ wc_87.toInt ∧ wc_87.toInt ≤ m_wr_87 ∧ n_pa ≤ m_wr_87 ∧ m_wr_87 ≤ 1048576 ∧ jPw m_wr_87 ∧ zcx_87 ≤ (m_wr_87 - n_pa) / 16 ∧ zsx_87 ≤ 2 * (m_wr_87 - n_pa) ∧ 0 ≤ v5_87.toInt ∧ v5_87.toInt ≤ 9) → (10 - v5_87.toInt : Int) < N → ∀ ls : Array Slot, lv_has ls 6 [(0, .ref r0), (1, .ref r1), (2, .ref r2), (3, .int v3_35), (4, .ref el_57), (5, .int v5_87)] → W p l e R s m ([.ref r0, .ref r1, .ref r2] : List Value).toArray below meth c H_87 locs_87 zcx_87 zsx_87 Q (F0 m 119 ls []) := by
                    intro N
                    induction N with
                    | zero => intro Gx_87 zcx_87 zsx_87 v5_87 wc_87 wr_87 m_wr_87 H_87 locs_87 hh_87 hN_87 hle_87 hg_wr_87 hi_87 hm; exact absurd hm (by omega)
                    | succ N L119 =>
                      intro Gx_87 zcx_87 zsx_87 v5_87 wc_87 wr_87 m_wr_87 H_87 locs_87 hh_87 hN_87 hle_87 hg_wr_87 hi_87 hm_87 ls hl
                      have hg_88 := hle_87 _ _ hg_75
                      have hg_89 := hle_87 _ _ hg_76
                      have hg_90 := hle_87 _ _ hg_77
                      have hg_91 := hle_87 _ _ hg_78
                      have hg_92 := hle_87 _ _ hg_variables_84
                      have hg_93 := hle_87 _ _ hg_79
                      have hg_94 := hle_87 _ _ hg_80
                      have hg_95 := hle_87 _ _ hg_81
                      obtain ⟨hi_87_0, hi_87_1, hi_87_2, hi_87_3, hi_87_4, hi_87_5, hi_87_6, hi_87_7, hi_87_8⟩ := hi_87
                      refine lv_iload hx hb dX7_proof_119 (lv_at hl 5 rfl) ?_
                      refine lv_aload hx hb dX7_proof_121 (lv_at hl 4 rfl) ?_
                      obtain ⟨v_96, hv_96, hh_97⟩ := hh_87.pin (C := RX3) (T := TX3) (N := 4) hB5 rfl (by decide) hg_91 (i := 1) (by decide) rfl
                      clear hh_87
                      obtain ⟨names_98, rfl, hg_names_98⟩ := hv_96
                      refine j7_read hx hb hown hK (C := RX3) (T := TX3) (N := 4) rfl hly_5_1 hlk_66 (hh_97.at 0 rfl) dX7_proof_123 ?_
                      refine j7_len hx hb hK hh_97 hB101 1 rfl (by decide) hg_names_98 (by omega) dX7_proof_126 (fun z_99 hz_99 => ?_)
                      refine lv_icmp_ge (tgt := 189) hx hb dX7_proof_127 (by decide) (fun c_100 => ?_) (fun c_100 => ?_)
                      · skip
                        have c_100' : v5_87.toInt ≥ z_99.toInt := jb_ge (rfl) (rfl) c_100
                        refine lv_aload_n hx hb dX7_proof_189 rfl (lv_at hl 2 rfl) ?_
                        refine va_ldcS hx hb hown rstr80 dX7_proof_190 ?_
                        have hsz_101 := hh_97.2.2.2.2.2.1
                        have htt_101 := hh_97.2.2.2.2.2.2.1
                        refine W.room (fun hrc_101 hrs_101 => ?_)
                        refine va_callv (A0 := jA base) (H0 := s.heap) (va_runV (As := [.ref str80]) (rest := []) ⟨hx, hb, hml, hown, hts⟩ (uX0_text l dC dI ca base B hB hAp hB2 hB196 Gx_87 H_87 r2 str80 3 wc_87 wr_87 m_wr_87 LC LS) (cwV 1 hts (jgV (jWr_31 _ (List.mem_of_getElem? (i := 16) rfl)) (jWr_25 _ (List.mem_of_getElem? (i := 22) rfl)) (jWr_25 _ (List.mem_of_getElem? (i := 23) rfl)) (jWr_1 _ (List.mem_of_getElem? (i := 14) rfl)) (jWr_26 _ (List.mem_of_getElem? (i := 0) rfl))) rfl rfl rfl (by decide +kernel) ⟨by rw [← hR]; exact Nat.le_of_ble_eq_true rfl, by rw [← hR]; exact Nat.le_of_ble_eq_true rfl⟩) ⟨fun a U g mk q => by obtain ⟨q0, q1, q2, qK, q10, q11, q12, q13, q14⟩ := q; exact ⟨q0, q1, q2, jG.calling g mk a qK, (q10.moved (Vm.Alike.refl U.vm)), q11, q12, q13, q14⟩, hh_97.recv (C := RX0) (T := TX0) (N := 2) hB2 rfl (by decide) hg_90 hK, fun U hU hW => ⟨rfl, hU, hh_97.2.1, hG.step hW hU hh_97.1, (hstr80.moved hW.alike).kept hh_97.1.2.1, hg_90, hg_wr_87, (hh_97.2.2.1.sub (L1 := [(r2, 2, 1, .int wc_87), (r2, 2, 0, .ref wr_87)]) [1, 2] rfl), (by omega), (by omega), ⟨(by first | omega | rfl | assumption | fail), (by first | omega | rfl | assumption | fail), (by first | omega | rfl | assumption | fail), (by first | omega | rfl | assumption | fail), (by first | assumption | fail | omega), (by first | omega | rfl | assumption | fail)⟩⟩⟩ rfl rfl hl.1 rfl (lv_room (Nat.le_of_ble_eq_true rfl)) dX7_proof_192 ⟨by rw [hRc]; omega, by rw [hRs]; omega⟩) hh_97.1 (fun q _ h => h) (fun q h => h) (fun u_101 t_101 H_101 locs_101 ht_101 hvm_101 hr_102 hb_101 hz_101 hk_101 hS_101 => ?_)
                        obtain ⟨qc_101, qa_101, m_qa_101, G_101⟩ := u_101
                        rw [ht_101] at hb_101
                        simp only at hb_101
                        obtain ⟨⟨hb_1011, hb_1012, hb_1013, hb_1014, hb_1015, hb_1016⟩, hgq_101_0, hN_101, hbO_101⟩ := hb_101
                        have hh_101 : jSt (dC, dI) B base G0 G_101 EX7_proof s.heap (zcx_87 + ((m_qa_101 - m_wr_87) / 16)) (zsx_87 + (2 * (m_qa_101 - m_wr_87))) [(r2, 2, 1, .int qc_101), (r2, 2, 0, .ref qa_101), (el_57, 5, 1, .ref names_98), (el_57, 5, 0, .ref variables_84), (el_57, 5, 2, .ref hypotheses_60), (r1, 11, 8, .ref goals_42), (r0, 9, 0, .ref names_16), (r1, 11, 6, .int lemma_4)] [] [] H_101 locs_101 := (hh_97.callG hb_1011 hb_1012 hb_1013 hb_1014 hb_1015 hS_101 rfl (L1 := [(el_57, 5, 1, .ref names_98), (el_57, 5, 0, .ref variables_84), (el_57, 5, 2, .ref hypotheses_60), (r1, 11, 8, .ref goals_42), (r0, 9, 0, .ref names_16), (r1, 11, 6, .int lemma_4)]) [0, 3, 4, 5, 6, 7] rfl rfl (M1 := []) [] rfl rfl (I1 := []) [] rfl rfl).more hb_1016
                        have hNn_101 : (jNk [0, 1, 2, 3, 4, 5, 6, 7, 8, 9, 10, 11, 12, 13, 14, 15, 16, 17, 175]) G0 G_101 := (hN_87).tr hN_101
                        have hg_103 := hb_1012 _ _ hg_88
                        have hg_104 := hb_1012 _ _ hg_89
                        have hg_105 := hb_1012 _ _ hg_90
                        have hg_106 := hb_1012 _ _ hg_91
                        have hg_107 := hb_1012 _ _ hg_names_98
                        have hg_108 := hb_1012 _ _ hg_92
                        have hg_109 := hb_1012 _ _ hg_93
                        have hg_110 := hb_1012 _ _ hg_94
                        have hg_111 := hb_1012 _ _ hg_95
                        have hd_112 := jOw.tr (hh_97.iv 0 rfl) hh_97.2.2.2.2.1 hbO_101
                        have hh_113 := hh_101.addI (jOw.ie (dC := dC) (dI := dI) (G0 := G0) (k := 2) (r := r2) (H0 := s.heap) (F := [(2, 0), (2, 1)]) (C := RX0) (T := TX0) (N := 2) rfl (by decide) hh_101.2.2.2.2.1 (hd_112))
                        clear hh_101
                        try simp only at hr_102
                        obtain ⟨hr_102_0, hr_102_1, hr_102_2, hr_102_3, hr_102_4⟩ := hr_102
                        have hh_114 := hh_113.wk (zc1 := (m_qa_101 - n_pa) / 16) (zs1 := 2 * (m_qa_101 - n_pa)) (by omega) (by omega)
                        clear hh_113
                        try clear hsz_101 htt_101 hrc_101 hrs_101
                        try clear hb_1014 hb_1015
                        refine lv_aload_n hx hb dX7_proof_195 rfl (lv_at hl 0 rfl) ?_
                        refine lv_aload hx hb dX7_proof_196 (lv_at hl 4 rfl) ?_
                        obtain ⟨v_115, hv_115, hh_116⟩ := hh_114.pin (C := RX3) (T := TX3) (N := 4) hB5 rfl (by decide) hg_106 (i := 3) (by decide) rfl
                        clear hh_114
                        rcases hv_115 with ⟨rfl, hcv_115⟩ | ⟨formula_117, nformula_117, rfl, hg_formula_117, hn_formula_117, hcv_115, hdv_115⟩
                        · exact absurd hcv_115 (by omega)
                        refine j7_read hx hb hown hK (C := RX3) (T := TX3) (N := 4) rfl hly_5_3 hlk_82 (hh_116.at 0 rfl) dX7_proof_198 ?_
                        refine lv_aload_n hx hb dX7_proof_201 rfl (lv_at hl 2 rfl) ?_
                        have hsz_118 := hh_116.2.2.2.2.2.1
                        have htt_118 := hh_116.2.2.2.2.2.2.1
                        refine W.room (fun hrc_118 hrs_118 => ?_)
                        refine va_callv (A0 := jA base) (H0 := s.heap) (va_runV (As := [.ref formula_117, .ref r2]) (rest := []) ⟨hx, hb, hml, hown, hts⟩ (uX7_formula l dC dI ca base B hB hAp hB2 hB8 hB9 hB102 hB132 hB196 hB280 hB286 hB287 hB288 G_101 H_101 r0 formula_117 r2 nformula_117 qc_101 qa_101 m_qa_101 LC LS) (cwV 2 hts (jgV (jWr_31 _ (List.mem_of_getElem? (i := 3) rfl)) (jWr_31 _ (List.mem_of_getElem? (i := 4) rfl)) (jWr_31 _ (List.mem_of_getElem? (i := 5) rfl)) (jWr_2 _ (List.mem_of_getElem? (i := 8) rfl)) (jWr_31 _ (List.mem_of_getElem? (i := 6) rfl))) rfl rfl rfl (by decide +kernel) ⟨by rw [← hR]; exact Nat.le_of_ble_eq_true rfl, by rw [← hR]; exact Nat.le_of_ble_eq_true rfl⟩) ⟨fun a U g mk q => by obtain ⟨q0, q1, q2, qK, q10, q11, q12, q13, q14, q15⟩ := q; exact ⟨q0, q1, q2, jG.calling g mk a qK, q10, q11, q12, q13, q14, q15⟩, hh_116.recv (C := RX7) (T := TX7) (N := 5) hB9 rfl (by decide) hg_103 hK, fun U hU hW => ⟨rfl, hU, hh_116.2.1, hG.step hW hU hh_116.1, hg_105, hg_formula_117, hg_103, hgq_101_0, (hh_116.2.2.1.sub (L1 := [(r2, 2, 1, .int qc_101), (r2, 2, 0, .ref qa_101)]) [1, 2] rfl), (by omega), (by omega), ⟨(by first | omega | rfl | assumption | fail), (by first | omega | rfl | assumption | fail), (by first | omega | rfl | assumption | fail), (by first | omega | rfl | assumption | fail), (by first | assumption | fail | omega), (by first | omega | rfl | assumption | fail)⟩⟩⟩ rfl rfl hl.1 rfl (lv_room (Nat.le_of_ble_eq_true rfl)) dX7_proof_202 ⟨by rw [hRc]; omega, by rw [hRs]; omega⟩) hh_116.1 (fun q _ h => h) (fun q h => h) (fun u_118 t_118 H_118 locs_118 ht_118 hvm_118 hr_119 hb_118 hz_118 hk_118 hS_118 => ?_)
                        obtain ⟨qc_118, qa_118, m_qa_118, G_118⟩ := u_118
                        rw [ht_118] at hb_118
                        simp only at hb_118
                        obtain ⟨⟨hb_1181, hb_1182, hb_1183, hb_1184, hb_1185, hb_1186⟩, hgq_118_0, hN_118, hbO_118⟩ := hb_118
                        have hh_118 : jSt (dC, dI) B base G0 G_118 EX7_proof s.heap (((m_qa_101 - n_pa) / 16) + ((m_qa_118 - m_qa_101) / 16)) ((2 * (m_qa_101 - n_pa)) + (2 * (m_qa_118 - m_qa_101))) [(r2, 2, 1, .int qc_118), (r2, 2, 0, .ref qa_118), (el_57, 5, 3, .ref formula_117), (el_57, 5, 1, .ref names_98), (el_57, 5, 0, .ref variables_84), (el_57, 5, 2, .ref hypotheses_60), (r1, 11, 8, .ref goals_42), (r0, 9, 0, .ref names_16), (r1, 11, 6, .int lemma_4)] [] [] H_118 locs_118 := (hh_116.callG hb_1181 hb_1182 hb_1183 hb_1184 hb_1185 hS_118 rfl (L1 := [(el_57, 5, 3, .ref formula_117), (el_57, 5, 1, .ref names_98), (el_57, 5, 0, .ref variables_84), (el_57, 5, 2, .ref hypotheses_60), (r1, 11, 8, .ref goals_42), (r0, 9, 0, .ref names_16), (r1, 11, 6, .int lemma_4)]) [0, 3, 4, 5, 6, 7, 8] rfl rfl (M1 := []) [] rfl rfl (I1 := []) [] rfl rfl).more hb_1186
                        have hNn_118 : (jNk [0, 1, 2, 3, 4, 5, 6, 7, 8, 9, 10, 11, 12, 13, 14, 15, 16, 17, 175]) G0 G_118 := (hNn_101).tr hN_118
                        have hg_120 := hb_1182 _ _ hg_103
                        have hg_121 := hb_1182 _ _ hg_104
                        have hg_122 := hb_1182 _ _ hg_105
                        have hg_123 := hb_1182 _ _ hg_106
                        have hg_124 := hb_1182 _ _ hg_formula_117
                        have hg_125 := hb_1182 _ _ hg_107
                        have hg_126 := hb_1182 _ _ hg_108
                        have hg_127 := hb_1182 _ _ hg_109
                        have hg_128 := hb_1182 _ _ hg_110
                        have hg_129 := hb_1182 _ _ hg_111
                        have hd_130 := jOw.tr (hh_116.iv 0 rfl) hh_116.2.2.2.2.1 hbO_118
                        have hh_131 := hh_118.addI (jOw.ie (dC := dC) (dI := dI) (G0 := G0) (k := 2) (r := r2) (H0 := s.heap) (F := [(2, 0), (2, 1)]) (C := RX0) (T := TX0) (N := 2) rfl (by decide) hh_118.2.2.2.2.1 (hd_130))
                        clear hh_118
                        try simp only at hr_119
                        obtain ⟨hr_119_0, hr_119_1, hr_119_2, hr_119_3, hr_119_4⟩ := hr_119
                        have hh_132 := hh_131.wk (zc1 := (m_qa_118 - n_pa) / 16) (zs1 := 2 * (m_qa_118 - n_pa)) (by omega) (by omega)
                        clear hh_131
                        try clear hsz_118 htt_118 hrc_118 hrs_118
                        try clear hb_1184 hb_1185
                        refine lv_aload_n hx hb dX7_proof_205 rfl (lv_at hl 2 rfl) ?_
                        refine lv_bipush (v := 34) hx hb dX7_proof_206 (by decide) ?_
                        have hsz_133 := hh_132.2.2.2.2.2.1
                        have htt_133 := hh_132.2.2.2.2.2.2.1
                        refine W.room (fun hrc_133 hrs_133 => ?_)
                        refine va_callv (A0 := jA base) (H0 := s.heap) (va_runV (As := [.int 34]) (rest := []) ⟨hx, hb, hml, hown, hts⟩ (uX0_put l dC dI ca base B hB hAp hB2 hB196 G_118 H_118 r2 34 qc_118 qa_118 m_qa_118 LC LS) (cwV 1 hts (jgV (jWr_31 _ (List.mem_of_getElem? (i := 2) rfl)) (jWr_16 _ (List.mem_of_getElem? (i := 0) rfl)) (jWr_16 _ (List.mem_of_getElem? (i := 1) rfl)) (jWr_1 _ (List.mem_of_getElem? (i := 14) rfl)) (jWr_16 _ (List.mem_of_getElem? (i := 2) rfl))) rfl rfl rfl (by decide +kernel) ⟨by rw [← hR]; exact Nat.le_of_ble_eq_true rfl, by rw [← hR]; exact Nat.le_of_ble_eq_true rfl⟩) ⟨fun a U g mk q => by obtain ⟨q0, q1, q2, qK, q10, q11, q12, q13⟩ := q; exact ⟨q0, q1, q2, jG.calling g mk a qK, q10, q11, q12, q13⟩, hh_132.recv (C := RX0) (T := TX0) (N := 2) hB2 rfl (by decide) hg_122 hK, fun U hU hW => ⟨rfl, hU, hh_132.2.1, hG.step hW hU hh_132.1, hg_122, hgq_118_0, (hh_132.2.2.1.sub (L1 := [(r2, 2, 1, .int qc_118), (r2, 2, 0, .ref qa_118)]) [0, 1] rfl), (by omega), (by omega), ⟨(by first | omega | rfl | assumption | fail), (by first | omega | rfl | assumption | fail), (by first | omega | rfl | assumption | fail), (by first | omega | rfl | assumption | fail), (by first | assumption | fail | omega)⟩⟩⟩ rfl rfl hl.1 rfl (lv_room (Nat.le_of_ble_eq_true rfl)) dX7_proof_208 ⟨by rw [hRc]; omega, by rw [hRs]; omega⟩) hh_132.1 (fun q _ h => h) (fun q h => h) (fun u_133 t_133 H_133 locs_133 ht_133 hvm_133 hr_134 hb_133 hz_133 hk_133 hS_133 => ?_)
                        obtain ⟨qc_133, qa_133, m_qa_133, G_133⟩ := u_133
                        rw [ht_133] at hb_133
                        simp only at hb_133
                        obtain ⟨⟨hb_1331, hb_1332, hb_1333, hb_1334, hb_1335, hb_1336⟩, hgq_133_0, hN_133, hbO_133⟩ := hb_133
                        have hh_133 : jSt (dC, dI) B base G0 G_133 EX7_proof s.heap (((m_qa_118 - n_pa) / 16) + ((m_qa_133 - m_qa_118) / 16)) ((2 * (m_qa_118 - n_pa)) + (2 * (m_qa_133 - m_qa_118))) [(r2, 2, 1, .int qc_133), (r2, 2, 0, .ref qa_133), (el_57, 5, 3, .ref formula_117), (el_57, 5, 1, .ref names_98), (el_57, 5, 0, .ref variables_84), (el_57, 5, 2, .ref hypotheses_60), (r1, 11, 8, .ref goals_42), (r0, 9, 0, .ref names_16), (r1, 11, 6, .int lemma_4)] [] [] H_133 locs_133 := (hh_132.callG hb_1331 hb_1332 hb_1333 hb_1334 hb_1335 hS_133 rfl (L1 := [(el_57, 5, 3, .ref formula_117), (el_57, 5, 1, .ref names_98), (el_57, 5, 0, .ref variables_84), (el_57, 5, 2, .ref hypotheses_60), (r1, 11, 8, .ref goals_42), (r0, 9, 0, .ref names_16), (r1, 11, 6, .int lemma_4)]) [2, 3, 4, 5, 6, 7, 8] rfl rfl (M1 := []) [] rfl rfl (I1 := []) [] rfl rfl).more hb_1336
                        have hNn_133 : (jNk [0, 1, 2, 3, 4, 5, 6, 7, 8, 9, 10, 11, 12, 13, 14, 15, 16, 17, 175]) G0 G_133 := (hNn_118).tr hN_133
                        have hg_135 := hb_1332 _ _ hg_120
                        have hg_136 := hb_1332 _ _ hg_121
                        have hg_137 := hb_1332 _ _ hg_122
                        have hg_138 := hb_1332 _ _ hg_123
                        have hg_139 := hb_1332 _ _ hg_124
                        have hg_140 := hb_1332 _ _ hg_125
                        have hg_141 := hb_1332 _ _ hg_126
                        have hg_142 := hb_1332 _ _ hg_127
                        have hg_143 := hb_1332 _ _ hg_128
                        have hg_144 := hb_1332 _ _ hg_129
                        have hd_145 := jOw.tr (hh_132.iv 0 rfl) hh_132.2.2.2.2.1 hbO_133
                        have hh_146 := hh_133.addI (jOw.ie (dC := dC) (dI := dI) (G0 := G0) (k := 2) (r := r2) (H0 := s.heap) (F := [(2, 0), (2, 1)]) (C := RX0) (T := TX0) (N := 2) rfl (by decide) hh_133.2.2.2.2.1 (hd_145))
                        clear hh_133
                        try simp only at hr_134
                        obtain ⟨hr_134_0, hr_134_1, hr_134_2, hr_134_3, hr_134_4⟩ := hr_134
                        have hh_147 := hh_146.wk (zc1 := (m_qa_133 - n_pa) / 16) (zs1 := 2 * (m_qa_133 - n_pa)) (by omega) (by omega)
                        clear hh_146
                        try clear hsz_133 htt_133 hrc_133 hrs_133
                        try clear hb_1334 hb_1335
                        obtain ⟨z_148, ez_148⟩ : ∃ y : Int32, y = v3_35 + 1 := ⟨_, rfl⟩
                        refine lv_iinc (v := z_148) (lv' := [(3, .int z_148), (0, .ref r0), (1, .ref r1), (2, .ref r2), (4, .ref el_57), (5, .int v5_87)]) hx hb dX7_proof_211 hl (k := 3) rfl (by rw [ez_148]; rfl) (by decide) rfl (fun ls hl => ?_)
                        have hz_148 : z_148.toInt = v3_35.toInt + 1 := by rw [ez_148]; exact jb_iadd2 (rfl) (by decide) (by omega)
                        refine lv_goto (tgt := 41) hx hb dX7_proof_214 (by decide) ?_
                        refine W.tight (c2 := ((m_qa_133 - n_pa) / 16)) (n2 := (2 * (m_qa_133 - n_pa))) hh_147.2.2.2.2.2.1 hh_147.2.2.2.2.2.2.1 ?_
                        exact L41 G_133 ((m_qa_133 - n_pa) / 16) (2 * (m_qa_133 - n_pa)) z_148 qc_133 qa_133 m_qa_133 _ _ (hh_147.sub (L1 := [(r2, 2, 1, .int qc_133), (r2, 2, 0, .ref qa_133), (r0, 9, 0, .ref names_16), (r1, 11, 6, .int lemma_4)]) [0, 1, 7, 8] rfl (M1 := []) [] rfl (I1 := [([(2, 0), (2, 1)], jOw (dC, dI) G0 2 r2 s.heap)]) [0] rfl) (hNn_133) (((((((hle_35).tr hb_622).tr hle_74).tr hle_87).tr hb_1012).tr hb_1182).tr hb_1332) hgq_133_0 (⟨(by first | omega | rfl | assumption | fail), (by first | omega | rfl | assumption | fail), (by first | omega | rfl | assumption | fail), (by first | omega | rfl | assumption | fail), (by first | assumption | fail | omega), (by first | omega | rfl | assumption | fail), (by first | omega | rfl | assumption | fail), (by first | omega | rfl | assumption | fail), (by first | omega | rfl | assumption | fail)⟩) (by omega) _ (lv_sub hl [1, 2, 3, 0] rfl)
                      · skip
                        have c_100' : v5_87.toInt < z_99.toInt := jb_ge_n (rfl) (rfl) c_100
                        refine lv_iload hx hb dX7_proof_130 (lv_at hl 5 rfl) ?_
                        refine lv_aload hx hb dX7_proof_132 (lv_at hl 4 rfl) ?_
                        refine j7_read hx hb hown hK (C := RX3) (T := TX3) (N := 4) rfl hly_5_2 hlk_68 (hh_97.at 4 rfl) dX7_proof_134 ?_
                        refine j7_qlen hx hb hK5.1 hh_97 hB313 0 rfl (by decide) hg_93 (by omega) dX7_proof_137 (fun z_149 hz_149 => ?_)
                        refine lv_icmp_ge (tgt := 189) hx hb dX7_proof_138 (by decide) (fun c_150 => ?_) (fun c_150 => ?_)
                        · skip
                          have c_150' : v5_87.toInt ≥ z_149.toInt := jb_ge (rfl) (rfl) c_150
                          refine lv_aload_n hx hb dX7_proof_189 rfl (lv_at hl 2 rfl) ?_
                          refine va_ldcS hx hb hown rstr80 dX7_proof_190 ?_
                          have hsz_151 := hh_97.2.2.2.2.2.1
                          have htt_151 := hh_97.2.2.2.2.2.2.1
                          refine W.room (fun hrc_151 hrs_151 => ?_)
                          refine va_callv (A0 := jA base) (H0 := s.heap) (va_runV (As := [.ref str80]) (rest := []) ⟨hx, hb, hml, hown, hts⟩ (uX0_text l dC dI ca base B hB hAp hB2 hB196 Gx_87 H_87 r2 str80 3 wc_87 wr_87 m_wr_87 LC LS) (cwV 1 hts (jgV (jWr_31 _ (List.mem_of_getElem? (i := 16) rfl)) (jWr_25 _ (List.mem_of_getElem? (i := 22) rfl)) (jWr_25 _ (List.mem_of_getElem? (i := 23) rfl)) (jWr_1 _ (List.mem_of_getElem? (i := 14) rfl)) (jWr_26 _ (List.mem_of_getElem? (i := 0) rfl))) rfl rfl rfl (by decide +kernel) ⟨by rw [← hR]; exact Nat.le_of_ble_eq_true rfl, by rw [← hR]; exact Nat.le_of_ble_eq_true rfl⟩) ⟨fun a U g mk q => by obtain ⟨q0, q1, q2, qK, q10, q11, q12, q13, q14⟩ := q; exact ⟨q0, q1, q2, jG.calling g mk a qK, (q10.moved (Vm.Alike.refl U.vm)), q11, q12, q13, q14⟩, hh_97.recv (C := RX0) (T := TX0) (N := 2) hB2 rfl (by decide) hg_90 hK, fun U hU hW => ⟨rfl, hU, hh_97.2.1, hG.step hW hU hh_97.1, (hstr80.moved hW.alike).kept hh_97.1.2.1, hg_90, hg_wr_87, (hh_97.2.2.1.sub (L1 := [(r2, 2, 1, .int wc_87), (r2, 2, 0, .ref wr_87)]) [1, 2] rfl), (by omega), (by omega), ⟨(by first | omega | rfl | assumption | fail), (by first | omega | rfl | assumption | fail), (by first | omega | rfl | assumption | fail), (by first | omega | rfl | assumption | fail), (by first | assumption | fail | omega), (by first | omega | rfl | assumption | fail)⟩⟩⟩ rfl rfl hl.1 rfl (lv_room (Nat.le_of_ble_eq_true rfl)) dX7_proof_192 ⟨by rw [hRc]; omega, by rw [hRs]; omega⟩) hh_97.1 (fun q _ h => h) (fun q h => h) (fun u_151 t_151 H_151 locs_151 ht_151 hvm_151 hr_152 hb_151 hz_151 hk_151 hS_151 => ?_)
                          obtain ⟨qc_151, qa_151, m_qa_151, G_151⟩ := u_151
                          rw [ht_151] at hb_151
                          simp only at hb_151
                          obtain ⟨⟨hb_1511, hb_1512, hb_1513, hb_1514, hb_1515, hb_1516⟩, hgq_151_0, hN_151, hbO_151⟩ := hb_151
                          have hh_151 : jSt (dC, dI) B base G0 G_151 EX7_proof s.heap (zcx_87 + ((m_qa_151 - m_wr_87) / 16)) (zsx_87 + (2 * (m_qa_151 - m_wr_87))) [(r2, 2, 1, .int qc_151), (r2, 2, 0, .ref qa_151), (el_57, 5, 1, .ref names_98), (el_57, 5, 0, .ref variables_84), (el_57, 5, 2, .ref hypotheses_60), (r1, 11, 8, .ref goals_42), (r0, 9, 0, .ref names_16), (r1, 11, 6, .int lemma_4)] [] [] H_151 locs_151 := (hh_97.callG hb_1511 hb_1512 hb_1513 hb_1514 hb_1515 hS_151 rfl (L1 := [(el_57, 5, 1, .ref names_98), (el_57, 5, 0, .ref variables_84), (el_57, 5, 2, .ref hypotheses_60), (r1, 11, 8, .ref goals_42), (r0, 9, 0, .ref names_16), (r1, 11, 6, .int lemma_4)]) [0, 3, 4, 5, 6, 7] rfl rfl (M1 := []) [] rfl rfl (I1 := []) [] rfl rfl).more hb_1516
                          have hNn_151 : (jNk [0, 1, 2, 3, 4, 5, 6, 7, 8, 9, 10, 11, 12, 13, 14, 15, 16, 17, 175]) G0 G_151 := (hN_87).tr hN_151
                          have hg_153 := hb_1512 _ _ hg_88
                          have hg_154 := hb_1512 _ _ hg_89
                          have hg_155 := hb_1512 _ _ hg_90
                          have hg_156 := hb_1512 _ _ hg_91
                          have hg_157 := hb_1512 _ _ hg_names_98
                          have hg_158 := hb_1512 _ _ hg_92
                          have hg_159 := hb_1512 _ _ hg_93
                          have hg_160 := hb_1512 _ _ hg_94
                          have hg_161 := hb_1512 _ _ hg_95
                          have hd_162 := jOw.tr (hh_97.iv 0 rfl) hh_97.2.2.2.2.1 hbO_151
                          have hh_163 := hh_151.addI (jOw.ie (dC := dC) (dI := dI) (G0 := G0) (k := 2) (r := r2) (H0 := s.heap) (F := [(2, 0), (2, 1)]) (C := RX0) (T := TX0) (N := 2) rfl (by decide) hh_151.2.2.2.2.1 (hd_162))
                          clear hh_151
                          try simp only at hr_152
                          obtain ⟨hr_152_0, hr_152_1, hr_152_2, hr_152_3, hr_152_4⟩ := hr_152
                          have hh_164 := hh_163.wk (zc1 := (m_qa_151 - n_pa) / 16) (zs1 := 2 * (m_qa_151 - n_pa)) (by omega) (by omega)
                          clear hh_163
                          try clear hsz_151 htt_151 hrc_151 hrs_151
                          try clear hb_1514 hb_1515
                          refine lv_aload_n hx hb dX7_proof_195 rfl (lv_at hl 0 rfl) ?_
                          refine lv_aload hx hb dX7_proof_196 (lv_at hl 4 rfl) ?_
                          obtain ⟨v_165, hv_165, hh_166⟩ := hh_164.pin (C := RX3) (T := TX3) (N := 4) hB5 rfl (by decide) hg_156 (i := 3) (by decide) rfl
                          clear hh_164
                          rcases hv_165 with ⟨rfl, hcv_165⟩ | ⟨formula_167, nformula_167, rfl, hg_formula_167, hn_formula_167, hcv_165, hdv_165⟩
                          · exact absurd hcv_165 (by omega)
                          refine j7_read hx hb hown hK (C := RX3) (T := TX3) (N := 4) rfl hly_5_3 hlk_82 (hh_166.at 0 rfl) dX7_proof_198 ?_
                          refine lv_aload_n hx hb dX7_proof_201 rfl (lv_at hl 2 rfl) ?_
                          have hsz_168 := hh_166.2.2.2.2.2.1
                          have htt_168 := hh_166.2.2.2.2.2.2.1
                          refine W.room (fun hrc_168 hrs_168 => ?_)
                          refine va_callv (A0 := jA base) (H0 := s.heap) (va_runV (As := [.ref formula_167, .ref r2]) (rest := []) ⟨hx, hb, hml, hown, hts⟩ (uX7_formula l dC dI ca base B hB hAp hB2 hB8 hB9 hB102 hB132 hB196 hB280 hB286 hB287 hB288 G_151 H_151 r0 formula_167 r2 nformula_167 qc_151 qa_151 m_qa_151 LC LS) (cwV 2 hts (jgV (jWr_31 _ (List.mem_of_getElem? (i := 3) rfl)) (jWr_31 _ (List.mem_of_getElem? (i := 4) rfl)) (jWr_31 _ (List.mem_of_getElem? (i := 5) rfl)) (jWr_2 _ (List.mem_of_getElem? (i := 8) rfl)) (jWr_31 _ (List.mem_of_getElem? (i := 6) rfl))) rfl rfl rfl (by decide +kernel) ⟨by rw [← hR]; exact Nat.le_of_ble_eq_true rfl, by rw [← hR]; exact Nat.le_of_ble_eq_true rfl⟩) ⟨fun a U g mk q => by obtain ⟨q0, q1, q2, qK, q10, q11, q12, q13, q14, q15⟩ := q; exact ⟨q0, q1, q2, jG.calling g mk a qK, q10, q11, q12, q13, q14, q15⟩, hh_166.recv (C := RX7) (T := TX7) (N := 5) hB9 rfl (by decide) hg_153 hK, fun U hU hW => ⟨rfl, hU, hh_166.2.1, hG.step hW hU hh_166.1, hg_155, hg_formula_167, hg_153, hgq_151_0, (hh_166.2.2.1.sub (L1 := [(r2, 2, 1, .int qc_151), (r2, 2, 0, .ref qa_151)]) [1, 2] rfl), (by omega), (by omega), ⟨(by first | omega | rfl | assumption | fail), (by first | omega | rfl | assumption | fail), (by first | omega | rfl | assumption | fail), (by first | omega | rfl | assumption | fail), (by first | assumption | fail | omega), (by first | omega | rfl | assumption | fail)⟩⟩⟩ rfl rfl hl.1 rfl (lv_room (Nat.le_of_ble_eq_true rfl)) dX7_proof_202 ⟨by rw [hRc]; omega, by rw [hRs]; omega⟩) hh_166.1 (fun q _ h => h) (fun q h => h) (fun u_168 t_168 H_168 locs_168 ht_168 hvm_168 hr_169 hb_168 hz_168 hk_168 hS_168 => ?_)
                          obtain ⟨qc_168, qa_168, m_qa_168, G_168⟩ := u_168
                          rw [ht_168] at hb_168
                          simp only at hb_168
                          obtain ⟨⟨hb_1681, hb_1682, hb_1683, hb_1684, hb_1685, hb_1686⟩, hgq_168_0, hN_168, hbO_168⟩ := hb_168
                          have hh_168 : jSt (dC, dI) B base G0 G_168 EX7_proof s.heap (((m_qa_151 - n_pa) / 16) + ((m_qa_168 - m_qa_151) / 16)) ((2 * (m_qa_151 - n_pa)) + (2 * (m_qa_168 - m_qa_151))) [(r2, 2, 1, .int qc_168), (r2, 2, 0, .ref qa_168), (el_57, 5, 3, .ref formula_167), (el_57, 5, 1, .ref names_98), (el_57, 5, 0, .ref variables_84), (el_57, 5, 2, .ref hypotheses_60), (r1, 11, 8, .ref goals_42), (r0, 9, 0, .ref names_16), (r1, 11, 6, .int lemma_4)] [] [] H_168 locs_168 := (hh_166.callG hb_1681 hb_1682 hb_1683 hb_1684 hb_1685 hS_168 rfl (L1 := [(el_57, 5, 3, .ref formula_167), (el_57, 5, 1, .ref names_98), (el_57, 5, 0, .ref variables_84), (el_57, 5, 2, .ref hypotheses_60), (r1, 11, 8, .ref goals_42), (r0, 9, 0, .ref names_16), (r1, 11, 6, .int lemma_4)]) [0, 3, 4, 5, 6, 7, 8] rfl rfl (M1 := []) [] rfl rfl (I1 := []) [] rfl rfl).more hb_1686
                          have hNn_168 : (jNk [0, 1, 2, 3, 4, 5, 6, 7, 8, 9, 10, 11, 12, 13, 14, 15, 16, 17, 175]) G0 G_168 := (hNn_151).tr hN_168
                          have hg_170 := hb_1682 _ _ hg_153
                          have hg_171 := hb_1682 _ _ hg_154
                          have hg_172 := hb_1682 _ _ hg_155
                          have hg_173 := hb_1682 _ _ hg_156
                          have hg_174 := hb_1682 _ _ hg_formula_167
                          have hg_175 := hb_1682 _ _ hg_157
                          have hg_176 := hb_1682 _ _ hg_158
                          have hg_177 := hb_1682 _ _ hg_159
                          have hg_178 := hb_1682 _ _ hg_160
                          have hg_179 := hb_1682 _ _ hg_161
                          have hd_180 := jOw.tr (hh_166.iv 0 rfl) hh_166.2.2.2.2.1 hbO_168
                          have hh_181 := hh_168.addI (jOw.ie (dC := dC) (dI := dI) (G0 := G0) (k := 2) (r := r2) (H0 := s.heap) (F := [(2, 0), (2, 1)]) (C := RX0) (T := TX0) (N := 2) rfl (by decide) hh_168.2.2.2.2.1 (hd_180))
                          clear hh_168
                          try simp only at hr_169
                          obtain ⟨hr_169_0, hr_169_1, hr_169_2, hr_169_3, hr_169_4⟩ := hr_169
                          have hh_182 := hh_181.wk (zc1 := (m_qa_168 - n_pa) / 16) (zs1 := 2 * (m_qa_168 - n_pa)) (by omega) (by omega)
                          clear hh_181
                          try clear hsz_168 htt_168 hrc_168 hrs_168
                          try clear hb_1684 hb_1685
                          refine lv_aload_n hx hb dX7_proof_205 rfl (lv_at hl 2 rfl) ?_
                          refine lv_bipush (v := 34) hx hb dX7_proof_206 (by decide) ?_
                          have hsz_183 := hh_182.2.2.2.2.2.1
                          have htt_183 := hh_182.2.2.2.2.2.2.1
                          refine W.room (fun hrc_183 hrs_183 => ?_)
                          refine va_callv (A0 := jA base) (H0 := s.heap) (va_runV (As := [.int 34]) (rest := []) ⟨hx, hb, hml, hown, hts⟩ (uX0_put l dC dI ca base B hB hAp hB2 hB196 G_168 H_168 r2 34 qc_168 qa_168 m_qa_168 LC LS) (cwV 1 hts (jgV (jWr_31 _ (List.mem_of_getElem? (i := 2) rfl)) (jWr_16 _ (List.mem_of_getElem? (i := 0) rfl)) (jWr_16 _ (List.mem_of_getElem? (i := 1) rfl)) (jWr_1 _ (List.mem_of_getElem? (i := 14) rfl)) (jWr_16 _ (List.mem_of_getElem? (i := 2) rfl))) rfl rfl rfl (by decide +kernel) ⟨by rw [← hR]; exact Nat.le_of_ble_eq_true rfl, by rw [← hR]; exact Nat.le_of_ble_eq_true rfl⟩) ⟨fun a U g mk q => by obtain ⟨q0, q1, q2, qK, q10, q11, q12, q13⟩ := q; exact ⟨q0, q1, q2, jG.calling g mk a qK, q10, q11, q12, q13⟩, hh_182.recv (C := RX0) (T := TX0) (N := 2) hB2 rfl (by decide) hg_172 hK, fun U hU hW => ⟨rfl, hU, hh_182.2.1, hG.step hW hU hh_182.1, hg_172, hgq_168_0, (hh_182.2.2.1.sub (L1 := [(r2, 2, 1, .int qc_168), (r2, 2, 0, .ref qa_168)]) [0, 1] rfl), (by omega), (by omega), ⟨(by first | omega | rfl | assumption | fail), (by first | omega | rfl | assumption | fail), (by first | omega | rfl | assumption | fail), (by first | omega | rfl | assumption | fail), (by first | assumption | fail | omega)⟩⟩⟩ rfl rfl hl.1 rfl (lv_room (Nat.le_of_ble_eq_true rfl)) dX7_proof_208 ⟨by rw [hRc]; omega, by rw [hRs]; omega⟩) hh_182.1 (fun q _ h => h) (fun q h => h) (fun u_183 t_183 H_183 locs_183 ht_183 hvm_183 hr_184 hb_183 hz_183 hk_183 hS_183 => ?_)
                          obtain ⟨qc_183, qa_183, m_qa_183, G_183⟩ := u_183
                          rw [ht_183] at hb_183
                          simp only at hb_183
                          obtain ⟨⟨hb_1831, hb_1832, hb_1833, hb_1834, hb_1835, hb_1836⟩, hgq_183_0, hN_183, hbO_183⟩ := hb_183
                          have hh_183 : jSt (dC, dI) B base G0 G_183 EX7_proof s.heap (((m_qa_168 - n_pa) / 16) + ((m_qa_183 - m_qa_168) / 16)) ((2 * (m_qa_168 - n_pa)) + (2 * (m_qa_183 - m_qa_168))) [(r2, 2, 1, .int qc_183), (r2, 2, 0, .ref qa_183), (el_57, 5, 3, .ref formula_167), (el_57, 5, 1, .ref names_98), (el_57, 5, 0, .ref variables_84), (el_57, 5, 2, .ref hypotheses_60), (r1, 11, 8, .ref goals_42), (r0, 9, 0, .ref names_16), (r1, 11, 6, .int lemma_4)] [] [] H_183 locs_183 := (hh_182.callG hb_1831 hb_1832 hb_1833 hb_1834 hb_1835 hS_183 rfl (L1 := [(el_57, 5, 3, .ref formula_167), (el_57, 5, 1, .ref names_98), (el_57, 5, 0, .ref variables_84), (el_57, 5, 2, .ref hypotheses_60), (r1, 11, 8, .ref goals_42), (r0, 9, 0, .ref names_16), (r1, 11, 6, .int lemma_4)]) [2, 3, 4, 5, 6, 7, 8] rfl rfl (M1 := []) [] rfl rfl (I1 := []) [] rfl rfl).more hb_1836
                          have hNn_183 : (jNk [0, 1, 2, 3, 4, 5, 6, 7, 8, 9, 10, 11, 12, 13, 14, 15, 16, 17, 175]) G0 G_183 := (hNn_168).tr hN_183
                          have hg_185 := hb_1832 _ _ hg_170
                          have hg_186 := hb_1832 _ _ hg_171
                          have hg_187 := hb_1832 _ _ hg_172
                          have hg_188 := hb_1832 _ _ hg_173
                          have hg_189 := hb_1832 _ _ hg_174
                          have hg_190 := hb_1832 _ _ hg_175
                          have hg_191 := hb_1832 _ _ hg_176
                          have hg_192 := hb_1832 _ _ hg_177
                          have hg_193 := hb_1832 _ _ hg_178
                          have hg_194 := hb_1832 _ _ hg_179
                          have hd_195 := jOw.tr (hh_182.iv 0 rfl) hh_182.2.2.2.2.1 hbO_183
                          have hh_196 := hh_183.addI (jOw.ie (dC := dC) (dI := dI) (G0 := G0) (k := 2) (r := r2) (H0 := s.heap) (F := [(2, 0), (2, 1)]) (C := RX0) (T := TX0) (N := 2) rfl (by decide) hh_183.2.2.2.2.1 (hd_195))
                          clear hh_183
                          try simp only at hr_184
                          obtain ⟨hr_184_0, hr_184_1, hr_184_2, hr_184_3, hr_184_4⟩ := hr_184
                          have hh_197 := hh_196.wk (zc1 := (m_qa_183 - n_pa) / 16) (zs1 := 2 * (m_qa_183 - n_pa)) (by omega) (by omega)
                          clear hh_196
                          try clear hsz_183 htt_183 hrc_183 hrs_183
                          try clear hb_1834 hb_1835
                          obtain ⟨z_198, ez_198⟩ : ∃ y : Int32, y = v3_35 + 1 := ⟨_, rfl⟩
                          refine lv_iinc (v := z_198) (lv' := [(3, .int z_198), (0, .ref r0), (1, .ref r1), (2, .ref r2), (4, .ref el_57), (5, .int v5_87)]) hx hb dX7_proof_211 hl (k := 3) rfl (by rw [ez_198]; rfl) (by decide) rfl (fun ls hl => ?_)
                          have hz_198 : z_198.toInt = v3_35.toInt + 1 := by rw [ez_198]; exact jb_iadd2 (rfl) (by decide) (by omega)
                          refine lv_goto (tgt := 41) hx hb dX7_proof_214 (by decide) ?_
                          refine W.tight (c2 := ((m_qa_183 - n_pa) / 16)) (n2 := (2 * (m_qa_183 - n_pa))) hh_197.2.2.2.2.2.1 hh_197.2.2.2.2.2.2.1 ?_
                          exact L41 G_183 ((m_qa_183 - n_pa) / 16) (2 * (m_qa_183 - n_pa)) z_198 qc_183 qa_183 m_qa_183 _ _ (hh_197.sub (L1 := [(r2, 2, 1, .int qc_183), (r2, 2, 0, .ref qa_183), (r0, 9, 0, .ref names_16), (r1, 11, 6, .int lemma_4)]) [0, 1, 7, 8] rfl (M1 := []) [] rfl (I1 := [([(2, 0), (2, 1)], jOw (dC, dI) G0 2 r2 s.heap)]) [0] rfl) (hNn_183) (((((((hle_35).tr hb_622).tr hle_74).tr hle_87).tr hb_1512).tr hb_1682).tr hb_1832) hgq_183_0 (⟨(by first | omega | rfl | assumption | fail), (by first | omega | rfl | assumption | fail), (by first | omega | rfl | assumption | fail), (by first | omega | rfl | assumption | fail), (by first | assumption | fail | omega), (by first | omega | rfl | assumption | fail), (by first | omega | rfl | assumption | fail), (by first | omega | rfl | assumption | fail), (by first | omega | rfl | assumption | fail)⟩) (by omega) _ (lv_sub hl [1, 2, 3, 0] rfl)
                        · skip
                          have c_150' : v5_87.toInt < z_149.toInt := jb_ge_n (rfl) (rfl) c_150
                          refine lv_aload_n hx hb dX7_proof_141 rfl (lv_at hl 0 rfl) ?_
                          refine j7_read hx hb hown hK (C := RX7) (T := TX7) (N := 5) rfl hly_9_0 hlk_21 (hh_97.at 6 rfl) dX7_proof_142 ?_
                          refine lv_aload hx hb dX7_proof_145 (lv_at hl 4 rfl) ?_
                          refine j7_read hx hb hown hK (C := RX3) (T := TX3) (N := 4) rfl hly_5_1 hlk_66 (hh_97.at 0 rfl) dX7_proof_147 ?_
                          refine lv_iload hx hb dX7_proof_150 (lv_at hl 5 rfl) ?_
                          refine j7_iald hx hb hK hh_97 hB101 1 rfl (by decide) hg_names_98 (x := v5_87.toInt) (rfl) (by omega) dX7_proof_152 (fun z_199 (hz_199 : True) => ?_)
                          refine lv_iconst (v := 0) hx hb dX7_proof_153 (by decide) ?_
                          refine lv_aload_n hx hb dX7_proof_154 rfl (lv_at hl 2 rfl) ?_
                          have hsz_200 := hh_97.2.2.2.2.2.1
                          have htt_200 := hh_97.2.2.2.2.2.2.1
                          refine W.room (fun hrc_200 hrs_200 => ?_)
                          refine va_callv (A0 := jA base) (H0 := s.heap) (va_runV (As := [.int z_199, .int 0, .ref r2]) (rest := []) ⟨hx, hb, hml, hown, hts⟩ (uX6_write l dC dI ca base B hB hAp hB2 hB8 hB102 hB132 hB196 Gx_87 H_87 names_16 z_199 0 r2 wc_87 wr_87 m_wr_87 LC LS) (cwV 3 hts (jgV (jWr_31 _ (List.mem_of_getElem? (i := 17) rfl)) (jWr_31 _ (List.mem_of_getElem? (i := 18) rfl)) (jWr_31 _ (List.mem_of_getElem? (i := 19) rfl)) (jWr_4 _ (List.mem_of_getElem? (i := 10) rfl)) (jWr_31 _ (List.mem_of_getElem? (i := 20) rfl))) rfl rfl rfl (by decide +kernel) ⟨by rw [← hR]; exact Nat.le_of_ble_eq_true rfl, by rw [← hR]; exact Nat.le_of_ble_eq_true rfl⟩) ⟨fun a U g mk q => by obtain ⟨q0, q1, q2, qK, q10, q11, q12, q13, q14⟩ := q; exact ⟨q0, q1, q2, jG.calling g mk a qK, q10, q11, q12, q13, q14⟩, hh_97.recv (C := RX6) (T := TX6) (N := 4) hB8 rfl (by decide) hg_95 hK, fun U hU hW => ⟨rfl, hU, hh_97.2.1, hG.step hW hU hh_97.1, hg_90, hg_95, hg_wr_87, (hh_97.2.2.1.sub (L1 := [(r2, 2, 1, .int wc_87), (r2, 2, 0, .ref wr_87)]) [1, 2] rfl), (by omega), (by omega), ⟨(by first | omega | rfl | assumption | fail), (by first | omega | rfl | assumption | fail), (by first | omega | rfl | assumption | fail), (by first | omega | rfl | assumption | fail), (by first | assumption | fail | omega)⟩⟩⟩ rfl rfl hl.1 rfl (lv_room (Nat.le_of_ble_eq_true rfl)) dX7_proof_155 ⟨by rw [hRc]; omega, by rw [hRs]; omega⟩) hh_97.1 (fun q _ h => h) (fun q h => h) (fun u_200 t_200 H_200 locs_200 ht_200 hvm_200 hr_201 hb_200 hz_200 hk_200 hS_200 => ?_)
                          obtain ⟨qc_200, qa_200, m_qa_200, G_200⟩ := u_200
                          rw [ht_200] at hb_200
                          simp only at hb_200
                          obtain ⟨⟨hb_2001, hb_2002, hb_2003, hb_2004, hb_2005, hb_2006⟩, hgq_200_0, hN_200, hbO_200⟩ := hb_200
                          have hh_200 : jSt (dC, dI) B base G0 G_200 EX7_proof s.heap (zcx_87 + ((m_qa_200 - m_wr_87) / 16)) (zsx_87 + (2 * (m_qa_200 - m_wr_87))) [(r2, 2, 1, .int qc_200), (r2, 2, 0, .ref qa_200), (el_57, 5, 1, .ref names_98), (el_57, 5, 0, .ref variables_84), (el_57, 5, 2, .ref hypotheses_60), (r1, 11, 8, .ref goals_42), (r0, 9, 0, .ref names_16), (r1, 11, 6, .int lemma_4)] [] [] H_200 locs_200 := (hh_97.callG hb_2001 hb_2002 hb_2003 hb_2004 hb_2005 hS_200 rfl (L1 := [(el_57, 5, 1, .ref names_98), (el_57, 5, 0, .ref variables_84), (el_57, 5, 2, .ref hypotheses_60), (r1, 11, 8, .ref goals_42), (r0, 9, 0, .ref names_16), (r1, 11, 6, .int lemma_4)]) [0, 3, 4, 5, 6, 7] rfl rfl (M1 := []) [] rfl rfl (I1 := []) [] rfl rfl).more hb_2006
                          have hNn_200 : (jNk [0, 1, 2, 3, 4, 5, 6, 7, 8, 9, 10, 11, 12, 13, 14, 15, 16, 17, 175]) G0 G_200 := (hN_87).tr hN_200
                          have hg_202 := hb_2002 _ _ hg_88
                          have hg_203 := hb_2002 _ _ hg_89
                          have hg_204 := hb_2002 _ _ hg_90
                          have hg_205 := hb_2002 _ _ hg_91
                          have hg_206 := hb_2002 _ _ hg_names_98
                          have hg_207 := hb_2002 _ _ hg_92
                          have hg_208 := hb_2002 _ _ hg_93
                          have hg_209 := hb_2002 _ _ hg_94
                          have hg_210 := hb_2002 _ _ hg_95
                          have hd_211 := jOw.tr (hh_97.iv 0 rfl) hh_97.2.2.2.2.1 hbO_200
                          have hh_212 := hh_200.addI (jOw.ie (dC := dC) (dI := dI) (G0 := G0) (k := 2) (r := r2) (H0 := s.heap) (F := [(2, 0), (2, 1)]) (C := RX0) (T := TX0) (N := 2) rfl (by decide) hh_200.2.2.2.2.1 (hd_211))
                          clear hh_200
                          try simp only at hr_201
                          obtain ⟨hr_201_0, hr_201_1, hr_201_2, hr_201_3, hr_201_4⟩ := hr_201
                          have hh_213 := hh_212.wk (zc1 := (m_qa_200 - n_pa) / 16) (zs1 := 2 * (m_qa_200 - n_pa)) (by omega) (by omega)
                          clear hh_212
                          try clear hsz_200 htt_200 hrc_200 hrs_200
                          try clear hb_2004 hb_2005
                          refine lv_aload_n hx hb dX7_proof_158 rfl (lv_at hl 2 rfl) ?_
                          refine va_ldcS hx hb hown rstr72 dX7_proof_159 ?_
                          have hsz_214 := hh_213.2.2.2.2.2.1
                          have htt_214 := hh_213.2.2.2.2.2.2.1
                          refine W.room (fun hrc_214 hrs_214 => ?_)
                          refine va_callv (A0 := jA base) (H0 := s.heap) (va_runV (As := [.ref str72]) (rest := []) ⟨hx, hb, hml, hown, hts⟩ (uX0_text l dC dI ca base B hB hAp hB2 hB196 G_200 H_200 r2 str72 3 qc_200 qa_200 m_qa_200 LC LS) (cwV 1 hts (jgV (jWr_31 _ (List.mem_of_getElem? (i := 16) rfl)) (jWr_25 _ (List.mem_of_getElem? (i := 22) rfl)) (jWr_25 _ (List.mem_of_getElem? (i := 23) rfl)) (jWr_1 _ (List.mem_of_getElem? (i := 14) rfl)) (jWr_26 _ (List.mem_of_getElem? (i := 0) rfl))) rfl rfl rfl (by decide +kernel) ⟨by rw [← hR]; exact Nat.le_of_ble_eq_true rfl, by rw [← hR]; exact Nat.le_of_ble_eq_true rfl⟩) ⟨fun a U g mk q => by obtain ⟨q0, q1, q2, qK, q10, q11, q12, q13, q14⟩ := q; exact ⟨q0, q1, q2, jG.calling g mk a qK, (q10.moved (Vm.Alike.refl U.vm)), q11, q12, q13, q14⟩, hh_213.recv (C := RX0) (T := TX0) (N := 2) hB2 rfl (by decide) hg_204 hK, fun U hU hW => ⟨rfl, hU, hh_213.2.1, hG.step hW hU hh_213.1, (hstr72.moved hW.alike).kept hh_213.1.2.1, hg_204, hgq_200_0, (hh_213.2.2.1.sub (L1 := [(r2, 2, 1, .int qc_200), (r2, 2, 0, .ref qa_200)]) [0, 1] rfl), (by omega), (by omega), ⟨(by first | omega | rfl | assumption | fail), (by first | omega | rfl | assumption | fail), (by first | omega | rfl | assumption | fail), (by first | omega | rfl | assumption | fail), (by first | assumption | fail | omega), (by first | omega | rfl | assumption | fail)⟩⟩⟩ rfl rfl hl.1 rfl (lv_room (Nat.le_of_ble_eq_true rfl)) dX7_proof_161 ⟨by rw [hRc]; omega, by rw [hRs]; omega⟩) hh_213.1 (fun q _ h => h) (fun q h => h) (fun u_214 t_214 H_214 locs_214 ht_214 hvm_214 hr_215 hb_214 hz_214 hk_214 hS_214 => ?_)
                          obtain ⟨qc_214, qa_214, m_qa_214, G_214⟩ := u_214
                          rw [ht_214] at hb_214
                          simp only at hb_214
                          obtain ⟨⟨hb_2141, hb_2142, hb_2143, hb_2144, hb_2145, hb_2146⟩, hgq_214_0, hN_214, hbO_214⟩ := hb_214
                          have hh_214 : jSt (dC, dI) B base G0 G_214 EX7_proof s.heap (((m_qa_200 - n_pa) / 16) + ((m_qa_214 - m_qa_200) / 16)) ((2 * (m_qa_200 - n_pa)) + (2 * (m_qa_214 - m_qa_200))) [(r2, 2, 1, .int qc_214), (r2, 2, 0, .ref qa_214), (el_57, 5, 1, .ref names_98), (el_57, 5, 0, .ref variables_84), (el_57, 5, 2, .ref hypotheses_60), (r1, 11, 8, .ref goals_42), (r0, 9, 0, .ref names_16), (r1, 11, 6, .int lemma_4)] [] [] H_214 locs_214 := (hh_213.callG hb_2141 hb_2142 hb_2143 hb_2144 hb_2145 hS_214 rfl (L1 := [(el_57, 5, 1, .ref names_98), (el_57, 5, 0, .ref variables_84), (el_57, 5, 2, .ref hypotheses_60), (r1, 11, 8, .ref goals_42), (r0, 9, 0, .ref names_16), (r1, 11, 6, .int lemma_4)]) [2, 3, 4, 5, 6, 7] rfl rfl (M1 := []) [] rfl rfl (I1 := []) [] rfl rfl).more hb_2146
                          have hNn_214 : (jNk [0, 1, 2, 3, 4, 5, 6, 7, 8, 9, 10, 11, 12, 13, 14, 15, 16, 17, 175]) G0 G_214 := (hNn_200).tr hN_214
                          have hg_216 := hb_2142 _ _ hg_202
                          have hg_217 := hb_2142 _ _ hg_203
                          have hg_218 := hb_2142 _ _ hg_204
                          have hg_219 := hb_2142 _ _ hg_205
                          have hg_220 := hb_2142 _ _ hg_206
                          have hg_221 := hb_2142 _ _ hg_207
                          have hg_222 := hb_2142 _ _ hg_208
                          have hg_223 := hb_2142 _ _ hg_209
                          have hg_224 := hb_2142 _ _ hg_210
                          have hd_225 := jOw.tr (hh_213.iv 0 rfl) hh_213.2.2.2.2.1 hbO_214
                          have hh_226 := hh_214.addI (jOw.ie (dC := dC) (dI := dI) (G0 := G0) (k := 2) (r := r2) (H0 := s.heap) (F := [(2, 0), (2, 1)]) (C := RX0) (T := TX0) (N := 2) rfl (by decide) hh_214.2.2.2.2.1 (hd_225))
                          clear hh_214
                          try simp only at hr_215
                          obtain ⟨hr_215_0, hr_215_1, hr_215_2, hr_215_3, hr_215_4⟩ := hr_215
                          have hh_227 := hh_226.wk (zc1 := (m_qa_214 - n_pa) / 16) (zs1 := 2 * (m_qa_214 - n_pa)) (by omega) (by omega)
                          clear hh_226
                          try clear hsz_214 htt_214 hrc_214 hrs_214
                          try clear hb_2144 hb_2145
                          refine lv_aload_n hx hb dX7_proof_164 rfl (lv_at hl 0 rfl) ?_
                          refine lv_aload hx hb dX7_proof_165 (lv_at hl 4 rfl) ?_
                          refine j7_read hx hb hown hK (C := RX3) (T := TX3) (N := 4) rfl hly_5_2 hlk_68 (hh_227.at 4 rfl) dX7_proof_167 ?_
                          refine lv_iload hx hb dX7_proof_170 (lv_at hl 5 rfl) ?_
                          refine j7_qaldA hx hb hK5 hh_227 hB313 (by decide) hg_222 (x := v5_87.toInt) (rfl) (by omega) dX7_proof_172 (fun o_228 ho_228 => ?_)
                          obtain ⟨el_229, nel_229, rfl, hg_el_229, hn_el_229⟩ := ho_228
                          simp only [va_rf]
                          refine lv_aload_n hx hb dX7_proof_173 rfl (lv_at hl 2 rfl) ?_
                          have hsz_230 := hh_227.2.2.2.2.2.1
                          have htt_230 := hh_227.2.2.2.2.2.2.1
                          refine W.room (fun hrc_230 hrs_230 => ?_)
                          refine va_callv (A0 := jA base) (H0 := s.heap) (va_runV (As := [.ref el_229, .ref r2]) (rest := []) ⟨hx, hb, hml, hown, hts⟩ (uX7_formula l dC dI ca base B hB hAp hB2 hB8 hB9 hB102 hB132 hB196 hB280 hB286 hB287 hB288 G_214 H_214 r0 el_229 r2 nel_229 qc_214 qa_214 m_qa_214 LC LS) (cwV 2 hts (jgV (jWr_31 _ (List.mem_of_getElem? (i := 3) rfl)) (jWr_31 _ (List.mem_of_getElem? (i := 4) rfl)) (jWr_31 _ (List.mem_of_getElem? (i := 5) rfl)) (jWr_2 _ (List.mem_of_getElem? (i := 8) rfl)) (jWr_31 _ (List.mem_of_getElem? (i := 6) rfl))) rfl rfl rfl (by decide +kernel) ⟨by rw [← hR]; exact Nat.le_of_ble_eq_true rfl, by rw [← hR]; exact Nat.le_of_ble_eq_true rfl⟩) ⟨fun a U g mk q => by obtain ⟨q0, q1, q2, qK, q10, q11, q12, q13, q14, q15⟩ := q; exact ⟨q0, q1, q2, jG.calling g mk a qK, q10, q11, q12, q13, q14, q15⟩, hh_227.recv (C := RX7) (T := TX7) (N := 5) hB9 rfl (by decide) hg_216 hK, fun U hU hW => ⟨rfl, hU, hh_227.2.1, hG.step hW hU hh_227.1, hg_218, hg_el_229, hg_216, hgq_214_0, (hh_227.2.2.1.sub (L1 := [(r2, 2, 1, .int qc_214), (r2, 2, 0, .ref qa_214)]) [0, 1] rfl), (by omega), (by omega), ⟨(by first | omega | rfl | assumption | fail), (by first | omega | rfl | assumption | fail), (by first | omega | rfl | assumption | fail), (by first | omega | rfl | assumption | fail), (by first | assumption | fail | omega), (by first | omega | rfl | assumption | fail)⟩⟩⟩ rfl rfl hl.1 rfl (lv_room (Nat.le_of_ble_eq_true rfl)) dX7_proof_174 ⟨by rw [hRc]; omega, by rw [hRs]; omega⟩) hh_227.1 (fun q _ h => h) (fun q h => h) (fun u_230 t_230 H_230 locs_230 ht_230 hvm_230 hr_231 hb_230 hz_230 hk_230 hS_230 => ?_)
                          obtain ⟨qc_230, qa_230, m_qa_230, G_230⟩ := u_230
                          rw [ht_230] at hb_230
                          simp only at hb_230
                          obtain ⟨⟨hb_2301, hb_2302, hb_2303, hb_2304, hb_2305, hb_2306⟩, hgq_230_0, hN_230, hbO_230⟩ := hb_230
                          have hh_230 : jSt (dC, dI) B base G0 G_230 EX7_proof s.heap (((m_qa_214 - n_pa) / 16) + ((m_qa_230 - m_qa_214) / 16)) ((2 * (m_qa_214 - n_pa)) + (2 * (m_qa_230 - m_qa_214))) [(r2, 2, 1, .int qc_230), (r2, 2, 0, .ref qa_230), (el_57, 5, 1, .ref names_98), (el_57, 5, 0, .ref variables_84), (el_57, 5, 2, .ref hypotheses_60), (r1, 11, 8, .ref goals_42), (r0, 9, 0, .ref names_16), (r1, 11, 6, .int lemma_4)] [] [] H_230 locs_230 := (hh_227.callG hb_2301 hb_2302 hb_2303 hb_2304 hb_2305 hS_230 rfl (L1 := [(el_57, 5, 1, .ref names_98), (el_57, 5, 0, .ref variables_84), (el_57, 5, 2, .ref hypotheses_60), (r1, 11, 8, .ref goals_42), (r0, 9, 0, .ref names_16), (r1, 11, 6, .int lemma_4)]) [2, 3, 4, 5, 6, 7] rfl rfl (M1 := []) [] rfl rfl (I1 := []) [] rfl rfl).more hb_2306
                          have hNn_230 : (jNk [0, 1, 2, 3, 4, 5, 6, 7, 8, 9, 10, 11, 12, 13, 14, 15, 16, 17, 175]) G0 G_230 := (hNn_214).tr hN_230
                          have hg_232 := hb_2302 _ _ hg_216
                          have hg_233 := hb_2302 _ _ hg_217
                          have hg_234 := hb_2302 _ _ hg_218
                          have hg_235 := hb_2302 _ _ hg_219
                          have hg_236 := hb_2302 _ _ hg_220
                          have hg_237 := hb_2302 _ _ hg_221
                          have hg_238 := hb_2302 _ _ hg_222
                          have hg_239 := hb_2302 _ _ hg_223
                          have hg_240 := hb_2302 _ _ hg_224
                          have hd_241 := jOw.tr (hh_227.iv 0 rfl) hh_227.2.2.2.2.1 hbO_230
                          have hh_242 := hh_230.addI (jOw.ie (dC := dC) (dI := dI) (G0 := G0) (k := 2) (r := r2) (H0 := s.heap) (F := [(2, 0), (2, 1)]) (C := RX0) (T := TX0) (N := 2) rfl (by decide) hh_230.2.2.2.2.1 (hd_241))
                          clear hh_230
                          try simp only at hr_231
                          obtain ⟨hr_231_0, hr_231_1, hr_231_2, hr_231_3, hr_231_4⟩ := hr_231
                          have hh_243 := hh_242.wk (zc1 := (m_qa_230 - n_pa) / 16) (zs1 := 2 * (m_qa_230 - n_pa)) (by omega) (by omega)
                          clear hh_242
                          try clear hsz_230 htt_230 hrc_230 hrs_230
                          try clear hb_2304 hb_2305
                          refine lv_aload_n hx hb dX7_proof_177 rfl (lv_at hl 2 rfl) ?_
                          refine va_ldcS hx hb hown rstr78 dX7_proof_178 ?_
                          have hsz_244 := hh_243.2.2.2.2.2.1
                          have htt_244 := hh_243.2.2.2.2.2.2.1
                          refine W.room (fun hrc_244 hrs_244 => ?_)
                          refine va_callv (A0 := jA base) (H0 := s.heap) (va_runV (As := [.ref str78]) (rest := []) ⟨hx, hb, hml, hown, hts⟩ (uX0_text l dC dI ca base B hB hAp hB2 hB196 G_230 H_230 r2 str78 2 qc_230 qa_230 m_qa_230 LC LS) (cwV 1 hts (jgV (jWr_31 _ (List.mem_of_getElem? (i := 16) rfl)) (jWr_25 _ (List.mem_of_getElem? (i := 22) rfl)) (jWr_25 _ (List.mem_of_getElem? (i := 23) rfl)) (jWr_1 _ (List.mem_of_getElem? (i := 14) rfl)) (jWr_26 _ (List.mem_of_getElem? (i := 0) rfl))) rfl rfl rfl (by decide +kernel) ⟨by rw [← hR]; exact Nat.le_of_ble_eq_true rfl, by rw [← hR]; exact Nat.le_of_ble_eq_true rfl⟩) ⟨fun a U g mk q => by obtain ⟨q0, q1, q2, qK, q10, q11, q12, q13, q14⟩ := q; exact ⟨q0, q1, q2, jG.calling g mk a qK, (q10.moved (Vm.Alike.refl U.vm)), q11, q12, q13, q14⟩, hh_243.recv (C := RX0) (T := TX0) (N := 2) hB2 rfl (by decide) hg_234 hK, fun U hU hW => ⟨rfl, hU, hh_243.2.1, hG.step hW hU hh_243.1, (hstr78.moved hW.alike).kept hh_243.1.2.1, hg_234, hgq_230_0, (hh_243.2.2.1.sub (L1 := [(r2, 2, 1, .int qc_230), (r2, 2, 0, .ref qa_230)]) [0, 1] rfl), (by omega), (by omega), ⟨(by first | omega | rfl | assumption | fail), (by first | omega | rfl | assumption | fail), (by first | omega | rfl | assumption | fail), (by first | omega | rfl | assumption | fail), (by first | assumption | fail | omega), (by first | omega | rfl | assumption | fail)⟩⟩⟩ rfl rfl hl.1 rfl (lv_room (Nat.le_of_ble_eq_true rfl)) dX7_proof_180 ⟨by rw [hRc]; omega, by rw [hRs]; omega⟩) hh_243.1 (fun q _ h => h) (fun q h => h) (fun u_244 t_244 H_244 locs_244 ht_244 hvm_244 hr_245 hb_244 hz_244 hk_244 hS_244 => ?_)
                          obtain ⟨qc_244, qa_244, m_qa_244, G_244⟩ := u_244
                          rw [ht_244] at hb_244
                          simp only at hb_244
                          obtain ⟨⟨hb_2441, hb_2442, hb_2443, hb_2444, hb_2445, hb_2446⟩, hgq_244_0, hN_244, hbO_244⟩ := hb_244
                          have hh_244 : jSt (dC, dI) B base G0 G_244 EX7_proof s.heap (((m_qa_230 - n_pa) / 16) + ((m_qa_244 - m_qa_230) / 16)) ((2 * (m_qa_230 - n_pa)) + (2 * (m_qa_244 - m_qa_230))) [(r2, 2, 1, .int qc_244), (r2, 2, 0, .ref qa_244), (el_57, 5, 1, .ref names_98), (el_57, 5, 0, .ref variables_84), (el_57, 5, 2, .ref hypotheses_60), (r1, 11, 8, .ref goals_42), (r0, 9, 0, .ref names_16), (r1, 11, 6, .int lemma_4)] [] [] H_244 locs_244 := (hh_243.callG hb_2441 hb_2442 hb_2443 hb_2444 hb_2445 hS_244 rfl (L1 := [(el_57, 5, 1, .ref names_98), (el_57, 5, 0, .ref variables_84), (el_57, 5, 2, .ref hypotheses_60), (r1, 11, 8, .ref goals_42), (r0, 9, 0, .ref names_16), (r1, 11, 6, .int lemma_4)]) [2, 3, 4, 5, 6, 7] rfl rfl (M1 := []) [] rfl rfl (I1 := []) [] rfl rfl).more hb_2446
                          have hNn_244 : (jNk [0, 1, 2, 3, 4, 5, 6, 7, 8, 9, 10, 11, 12, 13, 14, 15, 16, 17, 175]) G0 G_244 := (hNn_230).tr hN_244
                          have hg_246 := hb_2442 _ _ hg_232
                          have hg_247 := hb_2442 _ _ hg_233
                          have hg_248 := hb_2442 _ _ hg_234
                          have hg_249 := hb_2442 _ _ hg_235
                          have hg_250 := hb_2442 _ _ hg_236
                          have hg_251 := hb_2442 _ _ hg_237
                          have hg_252 := hb_2442 _ _ hg_238
                          have hg_253 := hb_2442 _ _ hg_239
                          have hg_254 := hb_2442 _ _ hg_240
                          have hd_255 := jOw.tr (hh_243.iv 0 rfl) hh_243.2.2.2.2.1 hbO_244
                          have hh_256 := hh_244.addI (jOw.ie (dC := dC) (dI := dI) (G0 := G0) (k := 2) (r := r2) (H0 := s.heap) (F := [(2, 0), (2, 1)]) (C := RX0) (T := TX0) (N := 2) rfl (by decide) hh_244.2.2.2.2.1 (hd_255))
                          clear hh_244
                          try simp only at hr_245
                          obtain ⟨hr_245_0, hr_245_1, hr_245_2, hr_245_3, hr_245_4⟩ := hr_245
                          have hh_257 := hh_256.wk (zc1 := (m_qa_244 - n_pa) / 16) (zs1 := 2 * (m_qa_244 - n_pa)) (by omega) (by omega)
                          clear hh_256
                          try clear hsz_244 htt_244 hrc_244 hrs_244
                          try clear hb_2444 hb_2445
                          obtain ⟨z_258, ez_258⟩ : ∃ y : Int32, y = v5_87 + 1 := ⟨_, rfl⟩
                          refine lv_iinc (v := z_258) (lv' := [(5, .int z_258), (0, .ref r0), (1, .ref r1), (2, .ref r2), (3, .int v3_35), (4, .ref el_57)]) hx hb dX7_proof_183 hl (k := 5) rfl (by rw [ez_258]; rfl) (by decide) rfl (fun ls hl => ?_)
                          have hz_258 : z_258.toInt = v5_87.toInt + 1 := by rw [ez_258]; exact jb_iadd2 (rfl) (by decide) (by omega)
                          refine lv_goto (tgt := 119) hx hb dX7_proof_186 (by decide) ?_
                          refine W.tight (c2 := ((m_qa_244 - n_pa) / 16)) (n2 := (2 * (m_qa_244 - n_pa))) hh_257.2.2.2.2.2.1 hh_257.2.2.2.2.2.2.1 ?_
                          exact L119 G_244 ((m_qa_244 - n_pa) / 16) (2 * (m_qa_244 - n_pa)) z_258 qc_244 qa_244 m_qa_244 _ _ (hh_257.sub (L1 := [(r2, 2, 1, .int qc_244), (r2, 2, 0, .ref qa_244), (el_57, 5, 0, .ref variables_84), (el_57, 5, 2, .ref hypotheses_60), (r1, 11, 8, .ref goals_42), (r0, 9, 0, .ref names_16), (r1, 11, 6, .int lemma_4)]) [0, 1, 3, 4, 5, 6, 7] rfl (M1 := []) [] rfl (I1 := [([(2, 0), (2, 1)], jOw (dC, dI) G0 2 r2 s.heap)]) [0] rfl) (hNn_244) (((((hle_87).tr hb_2002).tr hb_2142).tr hb_2302).tr hb_2442) hgq_244_0 (⟨(by first | omega | rfl | assumption | fail), (by first | omega | rfl | assumption | fail), (by first | omega | rfl | assumption | fail), (by first | omega | rfl | assumption | fail), (by first | assumption | fail | omega), (by first | omega | rfl | assumption | fail), (by first | omega | rfl | assumption | fail), (by first | omega | rfl | assumption | fail), (by first | omega | rfl | assumption | fail)⟩) (by omega) _ (lv_sub hl [1, 2, 3, 4, 5, 0] rfl)
                  refine W.tight (c2 := zcx_74) (n2 := zsx_74) hh_83.2.2.2.2.2.1 hh_83.2.2.2.2.2.2.1 ?_
                  exact L119 (10 - (0 : Int32).toInt : Int).toNat.succ Gx_74 zcx_74 zsx_74 0 wc_74 wr_74 m_wr_74 _ _ (hh_83.sub (L1 := [(r2, 2, 1, .int wc_74), (r2, 2, 0, .ref wr_74), (el_57, 5, 0, .ref variables_84), (el_57, 5, 2, .ref hypotheses_60), (r1, 11, 8, .ref goals_42), (r0, 9, 0, .ref names_16), (r1, 11, 6, .int lemma_4)]) [1, 2, 0, 3, 4, 5, 6] rfl (M1 := []) [] rfl (I1 := [([(2, 0), (2, 1)], jOw (dC, dI) G0 2 r2 s.heap)]) [0] rfl) (hN_74) (jLe.rf) hg_wr_74 (⟨(by first | omega | rfl | assumption | fail), (by first | omega | rfl | assumption | fail), (by first | omega | rfl | assumption | fail), (by first | omega | rfl | assumption | fail), (by first | assumption | fail | omega), (by first | omega | rfl | assumption | fail), (by first | omega | rfl | assumption | fail), (by first | omega | rfl | assumption | fail), (by first | omega | rfl | assumption | fail)⟩) (by omega) _ (lv_sub hl [1, 2, 3, 4, 5, 0] rfl)
                · skip
                  have c_86' : v5_74.toInt < z_85.toInt := jb_ge_n (rfl) (rfl) c_86
                  refine lv_aload_n hx hb dX7_proof_87 rfl (lv_at hl 0 rfl) ?_
                  refine j7_read hx hb hown hK (C := RX7) (T := TX7) (N := 5) rfl hly_9_0 hlk_21 (hh_83.at 5 rfl) dX7_proof_88 ?_
                  refine lv_aload hx hb dX7_proof_91 (lv_at hl 4 rfl) ?_
                  refine j7_read hx hb hown hK (C := RX3) (T := TX3) (N := 4) rfl hly_5_0 hlk_57 (hh_83.at 0 rfl) dX7_proof_93 ?_
                  refine lv_iload hx hb dX7_proof_96 (lv_at hl 5 rfl) ?_
                  refine j7_iald hx hb hK hh_83 hB101 1 rfl (by decide) hg_variables_84 (x := v5_74.toInt) (rfl) (by omega) dX7_proof_98 (fun z_259 (hz_259 : True) => ?_)
                  refine lv_iconst (v := 0) hx hb dX7_proof_99 (by decide) ?_
                  refine lv_aload_n hx hb dX7_proof_100 rfl (lv_at hl 2 rfl) ?_
                  have hsz_260 := hh_83.2.2.2.2.2.1
                  have htt_260 := hh_83.2.2.2.2.2.2.1
                  refine W.room (fun hrc_260 hrs_260 => ?_)
                  refine va_callv (A0 := jA base) (H0 := s.heap) (va_runV (As := [.int z_259, .int 0, .ref r2]) (rest := []) ⟨hx, hb, hml, hown, hts⟩ (uX6_write l dC dI ca base B hB hAp hB2 hB8 hB102 hB132 hB196 Gx_74 H_74 names_16 z_259 0 r2 wc_74 wr_74 m_wr_74 LC LS) (cwV 3 hts (jgV (jWr_31 _ (List.mem_of_getElem? (i := 17) rfl)) (jWr_31 _ (List.mem_of_getElem? (i := 18) rfl)) (jWr_31 _ (List.mem_of_getElem? (i := 19) rfl)) (jWr_4 _ (List.mem_of_getElem? (i := 10) rfl)) (jWr_31 _ (List.mem_of_getElem? (i := 20) rfl))) rfl rfl rfl (by decide +kernel) ⟨by rw [← hR]; exact Nat.le_of_ble_eq_true rfl, by rw [← hR]; exact Nat.le_of_ble_eq_true rfl⟩) ⟨fun a U g mk q => by obtain ⟨q0, q1, q2, qK, q10, q11, q12, q13, q14⟩ := q; exact ⟨q0, q1, q2, jG.calling g mk a qK, q10, q11, q12, q13, q14⟩, hh_83.recv (C := RX6) (T := TX6) (N := 4) hB8 rfl (by decide) hg_81 hK, fun U hU hW => ⟨rfl, hU, hh_83.2.1, hG.step hW hU hh_83.1, hg_77, hg_81, hg_wr_74, (hh_83.2.2.1.sub (L1 := [(r2, 2, 1, .int wc_74), (r2, 2, 0, .ref wr_74)]) [1, 2] rfl), (by omega), (by omega), ⟨(by first | omega | rfl | assumption | fail), (by first | omega | rfl | assumption | fail), (by first | omega | rfl | assumption | fail), (by first | omega | rfl | assumption | fail), (by first | assumption | fail | omega)⟩⟩⟩ rfl rfl hl.1 rfl (lv_room (Nat.le_of_ble_eq_true rfl)) dX7_proof_101 ⟨by rw [hRc]; omega, by rw [hRs]; omega⟩) hh_83.1 (fun q _ h => h) (fun q h => h) (fun u_260 t_260 H_260 locs_260 ht_260 hvm_260 hr_261 hb_260 hz_260 hk_260 hS_260 => ?_)
                  obtain ⟨qc_260, qa_260, m_qa_260, G_260⟩ := u_260
                  rw [ht_260] at hb_260
                  simp only at hb_260
                  obtain ⟨⟨hb_2601, hb_2602, hb_2603, hb_2604, hb_2605, hb_2606⟩, hgq_260_0, hN_260, hbO_260⟩ := hb_260
                  have hh_260 : jSt (dC, dI) B base G0 G_260 EX7_proof s.heap (zcx_74 + ((m_qa_260 - m_wr_74) / 16)) (zsx_74 + (2 * (m_qa_260 - m_wr_74))) [(r2, 2, 1, .int qc_260), (r2, 2, 0, .ref qa_260), (el_57, 5, 0, .ref variables_84), (el_57, 5, 2, .ref hypotheses_60), (r1, 11, 8, .ref goals_42), (r0, 9, 0, .ref names_16), (r1, 11, 6, .int lemma_4)] [] [] H_260 locs_260 := (hh_83.callG hb_2601 hb_2602 hb_2603 hb_2604 hb_2605 hS_260 rfl (L1 := [(el_57, 5, 0, .ref variables_84), (el_57, 5, 2, .ref hypotheses_60), (r1, 11, 8, .ref goals_42), (r0, 9, 0, .ref names_16), (r1, 11, 6, .int lemma_4)]) [0, 3, 4, 5, 6] rfl rfl (M1 := []) [] rfl rfl (I1 := []) [] rfl rfl).more hb_2606
                  have hNn_260 : (jNk [0, 1, 2, 3, 4, 5, 6, 7, 8, 9, 10, 11, 12, 13, 14, 15, 16, 17, 175]) G0 G_260 := (hN_74).tr hN_260
                  have hg_262 := hb_2602 _ _ hg_75
                  have hg_263 := hb_2602 _ _ hg_76
                  have hg_264 := hb_2602 _ _ hg_77
                  have hg_265 := hb_2602 _ _ hg_78
                  have hg_266 := hb_2602 _ _ hg_variables_84
                  have hg_267 := hb_2602 _ _ hg_79
                  have hg_268 := hb_2602 _ _ hg_80
                  have hg_269 := hb_2602 _ _ hg_81
                  have hd_270 := jOw.tr (hh_83.iv 0 rfl) hh_83.2.2.2.2.1 hbO_260
                  have hh_271 := hh_260.addI (jOw.ie (dC := dC) (dI := dI) (G0 := G0) (k := 2) (r := r2) (H0 := s.heap) (F := [(2, 0), (2, 1)]) (C := RX0) (T := TX0) (N := 2) rfl (by decide) hh_260.2.2.2.2.1 (hd_270))
                  clear hh_260
                  try simp only at hr_261
                  obtain ⟨hr_261_0, hr_261_1, hr_261_2, hr_261_3, hr_261_4⟩ := hr_261
                  have hh_272 := hh_271.wk (zc1 := (m_qa_260 - n_pa) / 16) (zs1 := 2 * (m_qa_260 - n_pa)) (by omega) (by omega)
                  clear hh_271
                  try clear hsz_260 htt_260 hrc_260 hrs_260
                  try clear hb_2604 hb_2605
                  refine lv_aload_n hx hb dX7_proof_104 rfl (lv_at hl 2 rfl) ?_
                  refine lv_bipush (v := 32) hx hb dX7_proof_105 (by decide) ?_
                  have hsz_273 := hh_272.2.2.2.2.2.1
                  have htt_273 := hh_272.2.2.2.2.2.2.1
                  refine W.room (fun hrc_273 hrs_273 => ?_)
                  refine va_callv (A0 := jA base) (H0 := s.heap) (va_runV (As := [.int 32]) (rest := []) ⟨hx, hb, hml, hown, hts⟩ (uX0_put l dC dI ca base B hB hAp hB2 hB196 G_260 H_260 r2 32 qc_260 qa_260 m_qa_260 LC LS) (cwV 1 hts (jgV (jWr_31 _ (List.mem_of_getElem? (i := 2) rfl)) (jWr_16 _ (List.mem_of_getElem? (i := 0) rfl)) (jWr_16 _ (List.mem_of_getElem? (i := 1) rfl)) (jWr_1 _ (List.mem_of_getElem? (i := 14) rfl)) (jWr_16 _ (List.mem_of_getElem? (i := 2) rfl))) rfl rfl rfl (by decide +kernel) ⟨by rw [← hR]; exact Nat.le_of_ble_eq_true rfl, by rw [← hR]; exact Nat.le_of_ble_eq_true rfl⟩) ⟨fun a U g mk q => by obtain ⟨q0, q1, q2, qK, q10, q11, q12, q13⟩ := q; exact ⟨q0, q1, q2, jG.calling g mk a qK, q10, q11, q12, q13⟩, hh_272.recv (C := RX0) (T := TX0) (N := 2) hB2 rfl (by decide) hg_264 hK, fun U hU hW => ⟨rfl, hU, hh_272.2.1, hG.step hW hU hh_272.1, hg_264, hgq_260_0, (hh_272.2.2.1.sub (L1 := [(r2, 2, 1, .int qc_260), (r2, 2, 0, .ref qa_260)]) [0, 1] rfl), (by omega), (by omega), ⟨(by first | omega | rfl | assumption | fail), (by first | omega | rfl | assumption | fail), (by first | omega | rfl | assumption | fail), (by first | omega | rfl | assumption | fail), (by first | assumption | fail | omega)⟩⟩⟩ rfl rfl hl.1 rfl (lv_room (Nat.le_of_ble_eq_true rfl)) dX7_proof_107 ⟨by rw [hRc]; omega, by rw [hRs]; omega⟩) hh_272.1 (fun q _ h => h) (fun q h => h) (fun u_273 t_273 H_273 locs_273 ht_273 hvm_273 hr_274 hb_273 hz_273 hk_273 hS_273 => ?_)
                  obtain ⟨qc_273, qa_273, m_qa_273, G_273⟩ := u_273
                  rw [ht_273] at hb_273
                  simp only at hb_273
                  obtain ⟨⟨hb_2731, hb_2732, hb_2733, hb_2734, hb_2735, hb_2736⟩, hgq_273_0, hN_273, hbO_273⟩ := hb_273
                  have hh_273 : jSt (dC, dI) B base G0 G_273 EX7_proof s.heap (((m_qa_260 - n_pa) / 16) + ((m_qa_273 - m_qa_260) / 16)) ((2 * (m_qa_260 - n_pa)) + (2 * (m_qa_273 - m_qa_260))) [(r2, 2, 1, .int qc_273), (r2, 2, 0, .ref qa_273), (el_57, 5, 0, .ref variables_84), (el_57, 5, 2, .ref hypotheses_60), (r1, 11, 8, .ref goals_42), (r0, 9, 0, .ref names_16), (r1, 11, 6, .int lemma_4)] [] [] H_273 locs_273 := (hh_272.callG hb_2731 hb_2732 hb_2733 hb_2734 hb_2735 hS_273 rfl (L1 := [(el_57, 5, 0, .ref variables_84), (el_57, 5, 2, .ref hypotheses_60), (r1, 11, 8, .ref goals_42), (r0, 9, 0, .ref names_16), (r1, 11, 6, .int lemma_4)]) [2, 3, 4, 5, 6] rfl rfl (M1 := []) [] rfl rfl (I1 := []) [] rfl rfl).more hb_2736
                  have hNn_273 : (jNk [0, 1, 2, 3, 4, 5, 6, 7, 8, 9, 10, 11, 12, 13, 14, 15, 16, 17, 175]) G0 G_273 := (hNn_260).tr hN_273
                  have hg_275 := hb_2732 _ _ hg_262
                  have hg_276 := hb_2732 _ _ hg_263
                  have hg_277 := hb_2732 _ _ hg_264
                  have hg_278 := hb_2732 _ _ hg_265
                  have hg_279 := hb_2732 _ _ hg_266
                  have hg_280 := hb_2732 _ _ hg_267
                  have hg_281 := hb_2732 _ _ hg_268
                  have hg_282 := hb_2732 _ _ hg_269
                  have hd_283 := jOw.tr (hh_272.iv 0 rfl) hh_272.2.2.2.2.1 hbO_273
                  have hh_284 := hh_273.addI (jOw.ie (dC := dC) (dI := dI) (G0 := G0) (k := 2) (r := r2) (H0 := s.heap) (F := [(2, 0), (2, 1)]) (C := RX0) (T := TX0) (N := 2) rfl (by decide) hh_273.2.2.2.2.1 (hd_283))
                  clear hh_273
                  try simp only at hr_274
                  obtain ⟨hr_274_0, hr_274_1, hr_274_2, hr_274_3, hr_274_4⟩ := hr_274
                  have hh_285 := hh_284.wk (zc1 := (m_qa_273 - n_pa) / 16) (zs1 := 2 * (m_qa_273 - n_pa)) (by omega) (by omega)
                  clear hh_284
                  try clear hsz_273 htt_273 hrc_273 hrs_273
                  try clear hb_2734 hb_2735
                  obtain ⟨z_286, ez_286⟩ : ∃ y : Int32, y = v5_74 + 1 := ⟨_, rfl⟩
                  refine lv_iinc (v := z_286) (lv' := [(5, .int z_286), (0, .ref r0), (1, .ref r1), (2, .ref r2), (3, .int v3_35), (4, .ref el_57)]) hx hb dX7_proof_110 hl (k := 5) rfl (by rw [ez_286]; rfl) (by decide) rfl (fun ls hl => ?_)
                  have hz_286 : z_286.toInt = v5_74.toInt + 1 := by rw [ez_286]; exact jb_iadd2 (rfl) (by decide) (by omega)
                  refine lv_goto (tgt := 76) hx hb dX7_proof_113 (by decide) ?_
                  refine W.tight (c2 := ((m_qa_273 - n_pa) / 16)) (n2 := (2 * (m_qa_273 - n_pa))) hh_285.2.2.2.2.2.1 hh_285.2.2.2.2.2.2.1 ?_
                  exact L76 G_273 ((m_qa_273 - n_pa) / 16) (2 * (m_qa_273 - n_pa)) z_286 qc_273 qa_273 m_qa_273 _ _ (hh_285.sub (L1 := [(r2, 2, 1, .int qc_273), (r2, 2, 0, .ref qa_273), (el_57, 5, 2, .ref hypotheses_60), (r1, 11, 8, .ref goals_42), (r0, 9, 0, .ref names_16), (r1, 11, 6, .int lemma_4)]) [0, 1, 3, 4, 5, 6] rfl (M1 := []) [] rfl (I1 := [([(2, 0), (2, 1)], jOw (dC, dI) G0 2 r2 s.heap)]) [0] rfl) (hNn_273) (((hle_74).tr hb_2602).tr hb_2732) hgq_273_0 (⟨(by first | omega | rfl | assumption | fail), (by first | omega | rfl | assumption | fail), (by first | omega | rfl | assumption | fail), (by first | omega | rfl | assumption | fail), (by first | assumption | fail | omega), (by first | omega | rfl | assumption | fail), (by first | omega | rfl | assumption | fail), (by first | omega | rfl | assumption | fail), (by first | omega | rfl | assumption | fail)⟩) (by omega) _ (lv_sub hl [1, 2, 3, 4, 5, 0] rfl)
            refine W.tight (c2 := ((m_qa_62 - n_pa) / 16)) (n2 := (2 * (m_qa_62 - n_pa))) hh_73.2.2.2.2.2.1 hh_73.2.2.2.2.2.2.1 ?_
            exact L76 (8 - (0 : Int32).toInt : Int).toNat.succ G_62 ((m_qa_62 - n_pa) / 16) (2 * (m_qa_62 - n_pa)) 0 qc_62 qa_62 m_qa_62 _ _ hh_73 (hNn_62) (jLe.rf) hgq_62_0 (⟨(by first | omega | rfl | assumption | fail), (by first | omega | rfl | assumption | fail), (by first | omega | rfl | assumption | fail), (by first | omega | rfl | assumption | fail), (by first | assumption | fail | omega), (by first | omega | rfl | assumption | fail), (by first | omega | rfl | assumption | fail), (by first | omega | rfl | assumption | fail), (by first | omega | rfl | assumption | fail)⟩) (by omega) _ (lv_sub hl [2, 3, 4, 5, 1, 0] rfl)
          · skip
            have c_61' : v3_35.toInt > 0 := jb_le_n (rfl) ((by decide)) c_61
            refine va_ldcS hx hb hown rstr53 dX7_proof_63 ?_
            refine lv_goto (tgt := 70) hx hb dX7_proof_65 (by decide) ?_
            have hsz_287 := hh_59.2.2.2.2.2.1
            have htt_287 := hh_59.2.2.2.2.2.2.1
            refine W.room (fun hrc_287 hrs_287 => ?_)
            refine va_callv (A0 := jA base) (H0 := s.heap) (va_runV (As := [.ref str53]) (rest := []) ⟨hx, hb, hml, hown, hts⟩ (uX0_text l dC dI ca base B hB hAp hB2 hB196 Gx_35 H_35 r2 str53 2 wc_35 wr_35 m_wr_35 LC LS) (cwV 1 hts (jgV (jWr_31 _ (List.mem_of_getElem? (i := 16) rfl)) (jWr_25 _ (List.mem_of_getElem? (i := 22) rfl)) (jWr_25 _ (List.mem_of_getElem? (i := 23) rfl)) (jWr_1 _ (List.mem_of_getElem? (i := 14) rfl)) (jWr_26 _ (List.mem_of_getElem? (i := 0) rfl))) rfl rfl rfl (by decide +kernel) ⟨by rw [← hR]; exact Nat.le_of_ble_eq_true rfl, by rw [← hR]; exact Nat.le_of_ble_eq_true rfl⟩) ⟨fun a U g mk q => by obtain ⟨q0, q1, q2, qK, q10, q11, q12, q13, q14⟩ := q; exact ⟨q0, q1, q2, jG.calling g mk a qK, (q10.moved (Vm.Alike.refl U.vm)), q11, q12, q13, q14⟩, hh_59.recv (C := RX0) (T := TX0) (N := 2) hB2 rfl (by decide) hg_38 hK, fun U hU hW => ⟨rfl, hU, hh_59.2.1, hG.step hW hU hh_59.1, (hstr53.moved hW.alike).kept hh_59.1.2.1, hg_38, hg_wr_35, (hh_59.2.2.1.sub (L1 := [(r2, 2, 1, .int wc_35), (r2, 2, 0, .ref wr_35)]) [2, 3] rfl), (by omega), (by omega), ⟨(by first | omega | rfl | assumption | fail), (by first | omega | rfl | assumption | fail), (by first | omega | rfl | assumption | fail), (by first | omega | rfl | assumption | fail), (by first | assumption | fail | omega), (by first | omega | rfl | assumption | fail)⟩⟩⟩ rfl rfl hl.1 rfl (lv_room (Nat.le_of_ble_eq_true rfl)) dX7_proof_70 ⟨by rw [hRc]; omega, by rw [hRs]; omega⟩) hh_59.1 (fun q _ h => h) (fun q h => h) (fun u_287 t_287 H_287 locs_287 ht_287 hvm_287 hr_288 hb_287 hz_287 hk_287 hS_287 => ?_)
            obtain ⟨qc_287, qa_287, m_qa_287, G_287⟩ := u_287
            rw [ht_287] at hb_287
            simp only at hb_287
            obtain ⟨⟨hb_2871, hb_2872, hb_2873, hb_2874, hb_2875, hb_2876⟩, hgq_287_0, hN_287, hbO_287⟩ := hb_287
            have hh_287 : jSt (dC, dI) B base G0 G_287 EX7_proof s.heap (zcx_35 + ((m_qa_287 - m_wr_35) / 16)) (zsx_35 + (2 * (m_qa_287 - m_wr_35))) [(r2, 2, 1, .int qc_287), (r2, 2, 0, .ref qa_287), (el_57, 5, 2, .ref hypotheses_60), (r1, 11, 8, .ref goals_42), (r0, 9, 0, .ref names_16), (r1, 11, 6, .int lemma_4)] [] [] H_287 locs_287 := (hh_59.callG hb_2871 hb_2872 hb_2873 hb_2874 hb_2875 hS_287 rfl (L1 := [(el_57, 5, 2, .ref hypotheses_60), (r1, 11, 8, .ref goals_42), (r0, 9, 0, .ref names_16), (r1, 11, 6, .int lemma_4)]) [0, 1, 4, 5] rfl rfl (M1 := []) [] rfl rfl (I1 := []) [] rfl rfl).more hb_2876
            have hNn_287 : (jNk [0, 1, 2, 3, 4, 5, 6, 7, 8, 9, 10, 11, 12, 13, 14, 15, 16, 17, 175]) G0 G_287 := (hN_35).tr hN_287
            have hg_289 := hb_2872 _ _ hg_el_57
            have hg_290 := hb_2872 _ _ hg_36
            have hg_291 := hb_2872 _ _ hg_37
            have hg_292 := hb_2872 _ _ hg_38
            have hg_293 := hb_2872 _ _ hg_hypotheses_60
            have hg_294 := hb_2872 _ _ hg_goals_42
            have hg_295 := hb_2872 _ _ hg_39
            have hd_296 := jOw.tr (hh_59.iv 0 rfl) hh_59.2.2.2.2.1 hbO_287
            have hh_297 := hh_287.addI (jOw.ie (dC := dC) (dI := dI) (G0 := G0) (k := 2) (r := r2) (H0 := s.heap) (F := [(2, 0), (2, 1)]) (C := RX0) (T := TX0) (N := 2) rfl (by decide) hh_287.2.2.2.2.1 (hd_296))
            clear hh_287
            try simp only at hr_288
            obtain ⟨hr_288_0, hr_288_1, hr_288_2, hr_288_3, hr_288_4⟩ := hr_288
            have hh_298 := hh_297.wk (zc1 := (m_qa_287 - n_pa) / 16) (zs1 := 2 * (m_qa_287 - n_pa)) (by omega) (by omega)
            clear hh_297
            try clear hsz_287 htt_287 hrc_287 hrs_287
            try clear hb_2874 hb_2875
            refine lv_iconst (v := 0) hx hb dX7_proof_73 (by decide) ?_
            refine lv_istore (lv' := [(5, .int 0), (4, .ref el_57), (0, .ref r0), (1, .ref r1), (2, .ref r2), (3, .int v3_35)]) hx hb dX7_proof_74 hl (by decide) rfl (fun ls hl => ?_)
            have L76 : ∀ (N : Nat) (Gx_299 : jT) (zcx_299 : Nat) (zsx_299 : Nat) (v5_299 : Int32) (wc_299 : Int32) (wr_299 : Nat) (m_wr_299 : Nat) (H_299 : Heap) (locs_299 : List Loc), jSt (dC, dI) B base G0 Gx_299 EX7_proof s.heap zcx_299 zsx_299 [(r2, 2, 1, .int wc_299), (r2, 2, 0, .ref wr_299), (el_57, 5, 2, .ref hypotheses_60), (r1, 11, 8, .ref goals_42), (r0, 9, 0, .ref names_16), (r1, 11, 6, .int lemma_4)] [] [([(2, 0), (2, 1)], jOw (dC, dI) G0 2 r2 s.heap)] H_299 locs_299 → (jNk [0, 1, 2, 3, 4, 5, 6, 7, 8, 9, 10, 11, 12, 13, 14, 15, 16, 17, 175]) G0 Gx_299 → jLe G_287 Gx_299 → Gx_299 wr_299 = some (196, m_wr_299) → (0 ≤ wc_299.toInt ∧ wc_299.toInt ≤ m_wr_299 ∧ n_pa ≤ m_wr_299 ∧ m_wr_299 ≤ 1048576 ∧ jPw m_wr_299 ∧ zcx_299 ≤ (m_wr_299 - n_pa) / 16 ∧ zsx_299 ≤ 2 * (m_wr_299 - n_pa) ∧ 0 ≤ v5_299.toInt ∧ v5_299.toInt ≤ 7) → (8 - v5_299.toInt : Int) < N → ∀ ls : Array Slot, lv_has ls 6 [(0, .ref r0), (1, .ref r1), (2, .ref r2), (3, .int v3_35), (4, .ref el_57), (5, .int v5_299)] → W p l e R s m ([.ref r0, .ref r1, .ref r2] : List Value).toArray below meth c H_299 locs_299 zcx_299 zsx_299 Q (F0 m 76 ls []) := by
              intro N
              induction N with
              | zero => intro Gx_299 zcx_299 zsx_299 v5_299 wc_299 wr_299 m_wr_299 H_299 locs_299 hh_299 hN_299 hle_299 hg_wr_299 hi_299 hm; exact absurd hm (by omega)
              | succ N L76 =>
                intro Gx_299 zcx_299 zsx_299 v5_299 wc_299 wr_299 m_wr_299 H_299 locs_299 hh_299 hN_299 hle_299 hg_wr_299 hi_299 hm_299 ls hl
                have hg_300 := hle_299 _ _ hg_290
                have hg_301 := hle_299 _ _ hg_291
                have hg_302 := hle_299 _ _ hg_292
                have hg_303 := hle_299 _ _ hg_289
                have hg_304 := hle_299 _ _ hg_293
                have hg_305 := hle_299 _ _ hg_294
                have hg_306 := hle_299 _ _ hg_295
                obtain ⟨hi_299_0, hi_299_1, hi_299_2, hi_299_3, hi_299_4, hi_299_5, hi_299_6, hi_299_7, hi_299_8⟩ := hi_299
                refine lv_iload hx hb dX7_proof_76 (lv_at hl 5 rfl) ?_
                refine lv_aload hx hb dX7_proof_78 (lv_at hl 4 rfl) ?_
                obtain ⟨v_307, hv_307, hh_308⟩ := hh_299.pin (C := RX3) (T := TX3) (N := 4) hB5 rfl (by decide) hg_303 (i := 0) (by decide) rfl
                clear hh_299
                obtain ⟨variables_309, nvariables_309, rfl, hg_variables_309, hvavariables_309, hvbvariables_309, hvcvariables_309⟩ := hv_307
                refine j7_read hx hb hown hK (C := RX3) (T := TX3) (N := 4) rfl hly_5_0 hlk_57 (hh_308.at 0 rfl) dX7_proof_80 ?_
                refine j7_len hx hb hK hh_308 hB101 1 rfl (by decide) hg_variables_309 (by omega) dX7_proof_83 (fun z_310 hz_310 => ?_)
                refine lv_icmp_ge (tgt := 116) hx hb dX7_proof_84 (by decide) (fun c_311 => ?_) (fun c_311 => ?_)
                · skip
                  have c_311' : v5_299.toInt ≥ z_310.toInt := jb_ge (rfl) (rfl) c_311
                  refine lv_iconst (v := 0) hx hb dX7_proof_116 (by decide) ?_
                  refine lv_istore (lv' := [(5, .int 0), (0, .ref r0), (1, .ref r1), (2, .ref r2), (3, .int v3_35), (4, .ref el_57)]) hx hb dX7_proof_117 hl (by decide) rfl (fun ls hl => ?_)
                  have L119 : ∀ (N : Nat) (Gx_312 : jT) (zcx_312 : Nat) (zsx_312 : Nat) (v5_312 : Int32) (wc_312 : Int32) (wr_312 : Nat) (m_wr_312 : Nat) (H_312 : Heap) (locs_312 : List Loc), jSt (dC, dI) B base G0 Gx_312 EX7_proof s.heap zcx_312 zsx_312 [(r2, 2, 1, .int wc_312), (r2, 2, 0, .ref wr_312), (el_57, 5, 0, .ref variables_309), (el_57, 5, 2, .ref hypotheses_60), (r1, 11, 8, .ref goals_42), (r0, 9, 0, .ref names_16), (r1, 11, 6, .int lemma_4)] [] [([(2, 0), (2, 1)], jOw (dC, dI) G0 2 r2 s.heap)] H_312 locs_312 → (jNk [0, 1, 2, 3, 4, 5, 6, 7, 8, 9, 10, 11, 12, 13, 14, 15, 16, 17, 175]) G0 Gx_312 → jLe Gx_299 Gx_312 → Gx_312 wr_312 = some (196, m_wr_312) → (0 ≤ wc_312.toInt ∧ wc_312.toInt ≤ m_wr_312 ∧ n_pa ≤ m_wr_312 ∧ m_wr_312 ≤ 1048576 ∧ jPw m_wr_312 ∧ zcx_312 ≤ (m_wr_312 - n_pa) / 16 ∧ zsx_312 ≤ 2 * (m_wr_312 - n_pa) ∧ 0 ≤ v5_312.toInt ∧ v5_312.toInt ≤ 9) → (10 - v5_312.toInt : Int) < N → ∀ ls : Array Slot, lv_has ls 6 [(0, .ref r0), (1, .ref r1), (2, .ref r2), (3, .int v3_35), (4, .ref el_57), (5, .int v5_312)] → W p l e R s m ([.ref r0, .ref r1, .ref r2] : List Value).toArray below meth c H_312 locs_312 zcx_312 zsx_312 Q (F0 m 119 ls []) := by
                    intro N
                    induction N with
                    | zero => intro Gx_312 zcx_312 zsx_312 v5_312 wc_312 wr_312 m_wr_312 H_312 locs_312 hh_312 hN_312 hle_312 hg_wr_312 hi_312 hm; exact absurd hm (by omega)
                    | succ N L119 =>
                      intro Gx_312 zcx_312 zsx_312 v5_312 wc_312 wr_312 m_wr_312 H_312 locs_312 hh_312 hN_312 hle_312 hg_wr_312 hi_312 hm_312 ls hl
                      have hg_313 := hle_312 _ _ hg_300
                      have hg_314 := hle_312 _ _ hg_301
                      have hg_315 := hle_312 _ _ hg_302
                      have hg_316 := hle_312 _ _ hg_303
                      have hg_317 := hle_312 _ _ hg_variables_309
                      have hg_318 := hle_312 _ _ hg_304
                      have hg_319 := hle_312 _ _ hg_305
                      have hg_320 := hle_312 _ _ hg_306
                      obtain ⟨hi_312_0, hi_312_1, hi_312_2, hi_312_3, hi_312_4, hi_312_5, hi_312_6, hi_312_7, hi_312_8⟩ := hi_312
                      refine lv_iload hx hb dX7_proof_119 (lv_at hl 5 rfl) ?_
                      refine lv_aload hx hb dX7_proof_121 (lv_at hl 4 rfl) ?_
                      obtain ⟨v_321, hv_321, hh_322⟩ := hh_312.pin (C := RX3) (T := TX3) (N := 4) hB5 rfl (by decide) hg_316 (i := 1) (by decide) rfl
                      clear hh_312
                      obtain ⟨names_323, rfl, hg_names_323⟩ := hv_321
                      refine j7_read hx hb hown hK (C := RX3) (T := TX3) (N := 4) rfl hly_5_1 hlk_66 (hh_322.at 0 rfl) dX7_proof_123 ?_
                      refine j7_len hx hb hK hh_322 hB101 1 rfl (by decide) hg_names_323 (by omega) dX7_proof_126 (fun z_324 hz_324 => ?_)
                      refine lv_icmp_ge (tgt := 189) hx hb dX7_proof_127 (by decide) (fun c_325 => ?_) (fun c_325 => ?_)
                      · skip
                        have c_325' : v5_312.toInt ≥ z_324.toInt := jb_ge (rfl) (rfl) c_325
                        refine lv_aload_n hx hb dX7_proof_189 rfl (lv_at hl 2 rfl) ?_
                        refine va_ldcS hx hb hown rstr80 dX7_proof_190 ?_
                        have hsz_326 := hh_322.2.2.2.2.2.1
                        have htt_326 := hh_322.2.2.2.2.2.2.1
                        refine W.room (fun hrc_326 hrs_326 => ?_)
                        refine va_callv (A0 := jA base) (H0 := s.heap) (va_runV (As := [.ref str80]) (rest := []) ⟨hx, hb, hml, hown, hts⟩ (uX0_text l dC dI ca base B hB hAp hB2 hB196 Gx_312 H_312 r2 str80 3 wc_312 wr_312 m_wr_312 LC LS) (cwV 1 hts (jgV (jWr_31 _ (List.mem_of_getElem? (i := 16) rfl)) (jWr_25 _ (List.mem_of_getElem? (i := 22) rfl)) (jWr_25 _ (List.mem_of_getElem? (i := 23) rfl)) (jWr_1 _ (List.mem_of_getElem? (i := 14) rfl)) (jWr_26 _ (List.mem_of_getElem? (i := 0) rfl))) rfl rfl rfl (by decide +kernel) ⟨by rw [← hR]; exact Nat.le_of_ble_eq_true rfl, by rw [← hR]; exact Nat.le_of_ble_eq_true rfl⟩) ⟨fun a U g mk q => by obtain ⟨q0, q1, q2, qK, q10, q11, q12, q13, q14⟩ := q; exact ⟨q0, q1, q2, jG.calling g mk a qK, (q10.moved (Vm.Alike.refl U.vm)), q11, q12, q13, q14⟩, hh_322.recv (C := RX0) (T := TX0) (N := 2) hB2 rfl (by decide) hg_315 hK, fun U hU hW => ⟨rfl, hU, hh_322.2.1, hG.step hW hU hh_322.1, (hstr80.moved hW.alike).kept hh_322.1.2.1, hg_315, hg_wr_312, (hh_322.2.2.1.sub (L1 := [(r2, 2, 1, .int wc_312), (r2, 2, 0, .ref wr_312)]) [1, 2] rfl), (by omega), (by omega), ⟨(by first | omega | rfl | assumption | fail), (by first | omega | rfl | assumption | fail), (by first | omega | rfl | assumption | fail), (by first | omega | rfl | assumption | fail), (by first | assumption | fail | omega), (by first | omega | rfl | assumption | fail)⟩⟩⟩ rfl rfl hl.1 rfl (lv_room (Nat.le_of_ble_eq_true rfl)) dX7_proof_192 ⟨by rw [hRc]; omega, by rw [hRs]; omega⟩) hh_322.1 (fun q _ h => h) (fun q h => h) (fun u_326 t_326 H_326 locs_326 ht_326 hvm_326 hr_327 hb_326 hz_326 hk_326 hS_326 => ?_)
                        obtain ⟨qc_326, qa_326, m_qa_326, G_326⟩ := u_326
                        rw [ht_326] at hb_326
                        simp only at hb_326
                        obtain ⟨⟨hb_3261, hb_3262, hb_3263, hb_3264, hb_3265, hb_3266⟩, hgq_326_0, hN_326, hbO_326⟩ := hb_326
                        have hh_326 : jSt (dC, dI) B base G0 G_326 EX7_proof s.heap (zcx_312 + ((m_qa_326 - m_wr_312) / 16)) (zsx_312 + (2 * (m_qa_326 - m_wr_312))) [(r2, 2, 1, .int qc_326), (r2, 2, 0, .ref qa_326), (el_57, 5, 1, .ref names_323), (el_57, 5, 0, .ref variables_309), (el_57, 5, 2, .ref hypotheses_60), (r1, 11, 8, .ref goals_42), (r0, 9, 0, .ref names_16), (r1, 11, 6, .int lemma_4)] [] [] H_326 locs_326 := (hh_322.callG hb_3261 hb_3262 hb_3263 hb_3264 hb_3265 hS_326 rfl (L1 := [(el_57, 5, 1, .ref names_323), (el_57, 5, 0, .ref variables_309), (el_57, 5, 2, .ref hypotheses_60), (r1, 11, 8, .ref goals_42), (r0, 9, 0, .ref names_16), (r1, 11, 6, .int lemma_4)]) [0, 3, 4, 5, 6, 7] rfl rfl (M1 := []) [] rfl rfl (I1 := []) [] rfl rfl).more hb_3266
                        have hNn_326 : (jNk [0, 1, 2, 3, 4, 5, 6, 7, 8, 9, 10, 11, 12, 13, 14, 15, 16, 17, 175]) G0 G_326 := (hN_312).tr hN_326
                        have hg_328 := hb_3262 _ _ hg_313
                        have hg_329 := hb_3262 _ _ hg_314
                        have hg_330 := hb_3262 _ _ hg_315
                        have hg_331 := hb_3262 _ _ hg_316
                        have hg_332 := hb_3262 _ _ hg_names_323
                        have hg_333 := hb_3262 _ _ hg_317
                        have hg_334 := hb_3262 _ _ hg_318
                        have hg_335 := hb_3262 _ _ hg_319
                        have hg_336 := hb_3262 _ _ hg_320
                        have hd_337 := jOw.tr (hh_322.iv 0 rfl) hh_322.2.2.2.2.1 hbO_326
                        have hh_338 := hh_326.addI (jOw.ie (dC := dC) (dI := dI) (G0 := G0) (k := 2) (r := r2) (H0 := s.heap) (F := [(2, 0), (2, 1)]) (C := RX0) (T := TX0) (N := 2) rfl (by decide) hh_326.2.2.2.2.1 (hd_337))
                        clear hh_326
                        try simp only at hr_327
                        obtain ⟨hr_327_0, hr_327_1, hr_327_2, hr_327_3, hr_327_4⟩ := hr_327
                        have hh_339 := hh_338.wk (zc1 := (m_qa_326 - n_pa) / 16) (zs1 := 2 * (m_qa_326 - n_pa)) (by omega) (by omega)
                        clear hh_338
                        try clear hsz_326 htt_326 hrc_326 hrs_326
                        try clear hb_3264 hb_3265
                        refine lv_aload_n hx hb dX7_proof_195 rfl (lv_at hl 0 rfl) ?_
                        refine lv_aload hx hb dX7_proof_196 (lv_at hl 4 rfl) ?_
                        obtain ⟨v_340, hv_340, hh_341⟩ := hh_339.pin (C := RX3) (T := TX3) (N := 4) hB5 rfl (by decide) hg_331 (i := 3) (by decide) rfl
                        clear hh_339
                        rcases hv_340 with ⟨rfl, hcv_340⟩ | ⟨formula_342, nformula_342, rfl, hg_formula_342, hn_formula_342, hcv_340, hdv_340⟩
                        · exact absurd hcv_340 (by omega)
                        refine j7_read hx hb hown hK (C := RX3) (T := TX3) (N := 4) rfl hly_5_3 hlk_82 (hh_341.at 0 rfl) dX7_proof_198 ?_
                        refine lv_aload_n hx hb dX7_proof_201 rfl (lv_at hl 2 rfl) ?_
                        have hsz_343 := hh_341.2.2.2.2.2.1
                        have htt_343 := hh_341.2.2.2.2.2.2.1
                        refine W.room (fun hrc_343 hrs_343 => ?_)
                        refine va_callv (A0 := jA base) (H0 := s.heap) (va_runV (As := [.ref formula_342, .ref r2]) (rest := []) ⟨hx, hb, hml, hown, hts⟩ (uX7_formula l dC dI ca base B hB hAp hB2 hB8 hB9 hB102 hB132 hB196 hB280 hB286 hB287 hB288 G_326 H_326 r0 formula_342 r2 nformula_342 qc_326 qa_326 m_qa_326 LC LS) (cwV 2 hts (jgV (jWr_31 _ (List.mem_of_getElem? (i := 3) rfl)) (jWr_31 _ (List.mem_of_getElem? (i := 4) rfl)) (jWr_31 _ (List.mem_of_getElem? (i := 5) rfl)) (jWr_2 _ (List.mem_of_getElem? (i := 8) rfl)) (jWr_31 _ (List.mem_of_getElem? (i := 6) rfl))) rfl rfl rfl (by decide +kernel) ⟨by rw [← hR]; exact Nat.le_of_ble_eq_true rfl, by rw [← hR]; exact Nat.le_of_ble_eq_true rfl⟩) ⟨fun a U g mk q => by obtain ⟨q0, q1, q2, qK, q10, q11, q12, q13, q14, q15⟩ := q; exact ⟨q0, q1, q2, jG.calling g mk a qK, q10, q11, q12, q13, q14, q15⟩, hh_341.recv (C := RX7) (T := TX7) (N := 5) hB9 rfl (by decide) hg_328 hK, fun U hU hW => ⟨rfl, hU, hh_341.2.1, hG.step hW hU hh_341.1, hg_330, hg_formula_342, hg_328, hgq_326_0, (hh_341.2.2.1.sub (L1 := [(r2, 2, 1, .int qc_326), (r2, 2, 0, .ref qa_326)]) [1, 2] rfl), (by omega), (by omega), ⟨(by first | omega | rfl | assumption | fail), (by first | omega | rfl | assumption | fail), (by first | omega | rfl | assumption | fail), (by first | omega | rfl | assumption | fail), (by first | assumption | fail | omega), (by first | omega | rfl | assumption | fail)⟩⟩⟩ rfl rfl hl.1 rfl (lv_room (Nat.le_of_ble_eq_true rfl)) dX7_proof_202 ⟨by rw [hRc]; omega, by rw [hRs]; omega⟩) hh_341.1 (fun q _ h => h) (fun q h => h) (fun u_343 t_343 H_343 locs_343 ht_343 hvm_343 hr_344 hb_343 hz_343 hk_343 hS_343 => ?_)
                        obtain ⟨qc_343, qa_343, m_qa_343, G_343⟩ := u_343
                        rw [ht_343] at hb_343
                        simp only at hb_343
                        obtain ⟨⟨hb_3431, hb_3432, hb_3433, hb_3434, hb_3435, hb_3436⟩, hgq_343_0, hN_343, hbO_343⟩ := hb_343
                        have hh_343 : jSt (dC, dI) B base G0 G_343 EX7_proof s.heap (((m_qa_326 - n_pa) / 16) + ((m_qa_343 - m_qa_326) / 16)) ((2 * (m_qa_326 - n_pa)) + (2 * (m_qa_343 - m_qa_326))) [(r2, 2, 1, .int qc_343), (r2, 2, 0, .ref qa_343), (el_57, 5, 3, .ref formula_342), (el_57, 5, 1, .ref names_323), (el_57, 5, 0, .ref variables_309), (el_57, 5, 2, .ref hypotheses_60), (r1, 11, 8, .ref goals_42), (r0, 9, 0, .ref names_16), (r1, 11, 6, .int lemma_4)] [] [] H_343 locs_343 := (hh_341.callG hb_3431 hb_3432 hb_3433 hb_3434 hb_3435 hS_343 rfl (L1 := [(el_57, 5, 3, .ref formula_342), (el_57, 5, 1, .ref names_323), (el_57, 5, 0, .ref variables_309), (el_57, 5, 2, .ref hypotheses_60), (r1, 11, 8, .ref goals_42), (r0, 9, 0, .ref names_16), (r1, 11, 6, .int lemma_4)]) [0, 3, 4, 5, 6, 7, 8] rfl rfl (M1 := []) [] rfl rfl (I1 := []) [] rfl rfl).more hb_3436
                        have hNn_343 : (jNk [0, 1, 2, 3, 4, 5, 6, 7, 8, 9, 10, 11, 12, 13, 14, 15, 16, 17, 175]) G0 G_343 := (hNn_326).tr hN_343
                        have hg_345 := hb_3432 _ _ hg_328
                        have hg_346 := hb_3432 _ _ hg_329
                        have hg_347 := hb_3432 _ _ hg_330
                        have hg_348 := hb_3432 _ _ hg_331
                        have hg_349 := hb_3432 _ _ hg_formula_342
                        have hg_350 := hb_3432 _ _ hg_332
                        have hg_351 := hb_3432 _ _ hg_333
                        have hg_352 := hb_3432 _ _ hg_334
                        have hg_353 := hb_3432 _ _ hg_335
                        have hg_354 := hb_3432 _ _ hg_336
                        have hd_355 := jOw.tr (hh_341.iv 0 rfl) hh_341.2.2.2.2.1 hbO_343
                        have hh_356 := hh_343.addI (jOw.ie (dC := dC) (dI := dI) (G0 := G0) (k := 2) (r := r2) (H0 := s.heap) (F := [(2, 0), (2, 1)]) (C := RX0) (T := TX0) (N := 2) rfl (by decide) hh_343.2.2.2.2.1 (hd_355))
                        clear hh_343
                        try simp only at hr_344
                        obtain ⟨hr_344_0, hr_344_1, hr_344_2, hr_344_3, hr_344_4⟩ := hr_344
                        have hh_357 := hh_356.wk (zc1 := (m_qa_343 - n_pa) / 16) (zs1 := 2 * (m_qa_343 - n_pa)) (by omega) (by omega)
                        clear hh_356
                        try clear hsz_343 htt_343 hrc_343 hrs_343
                        try clear hb_3434 hb_3435
                        refine lv_aload_n hx hb dX7_proof_205 rfl (lv_at hl 2 rfl) ?_
                        refine lv_bipush (v := 34) hx hb dX7_proof_206 (by decide) ?_
                        have hsz_358 := hh_357.2.2.2.2.2.1
                        have htt_358 := hh_357.2.2.2.2.2.2.1
                        refine W.room (fun hrc_358 hrs_358 => ?_)
                        refine va_callv (A0 := jA base) (H0 := s.heap) (va_runV (As := [.int 34]) (rest := []) ⟨hx, hb, hml, hown, hts⟩ (uX0_put l dC dI ca base B hB hAp hB2 hB196 G_343 H_343 r2 34 qc_343 qa_343 m_qa_343 LC LS) (cwV 1 hts (jgV (jWr_31 _ (List.mem_of_getElem? (i := 2) rfl)) (jWr_16 _ (List.mem_of_getElem? (i := 0) rfl)) (jWr_16 _ (List.mem_of_getElem? (i := 1) rfl)) (jWr_1 _ (List.mem_of_getElem? (i := 14) rfl)) (jWr_16 _ (List.mem_of_getElem? (i := 2) rfl))) rfl rfl rfl (by decide +kernel) ⟨by rw [← hR]; exact Nat.le_of_ble_eq_true rfl, by rw [← hR]; exact Nat.le_of_ble_eq_true rfl⟩) ⟨fun a U g mk q => by obtain ⟨q0, q1, q2, qK, q10, q11, q12, q13⟩ := q; exact ⟨q0, q1, q2, jG.calling g mk a qK, q10, q11, q12, q13⟩, hh_357.recv (C := RX0) (T := TX0) (N := 2) hB2 rfl (by decide) hg_347 hK, fun U hU hW => ⟨rfl, hU, hh_357.2.1, hG.step hW hU hh_357.1, hg_347, hgq_343_0, (hh_357.2.2.1.sub (L1 := [(r2, 2, 1, .int qc_343), (r2, 2, 0, .ref qa_343)]) [0, 1] rfl), (by omega), (by omega), ⟨(by first | omega | rfl | assumption | fail), (by first | omega | rfl | assumption | fail), (by first | omega | rfl | assumption | fail), (by first | omega | rfl | assumption | fail), (by first | assumption | fail | omega)⟩⟩⟩ rfl rfl hl.1 rfl (lv_room (Nat.le_of_ble_eq_true rfl)) dX7_proof_208 ⟨by rw [hRc]; omega, by rw [hRs]; omega⟩) hh_357.1 (fun q _ h => h) (fun q h => h) (fun u_358 t_358 H_358 locs_358 ht_358 hvm_358 hr_359 hb_358 hz_358 hk_358 hS_358 => ?_)
                        obtain ⟨qc_358, qa_358, m_qa_358, G_358⟩ := u_358
                        rw [ht_358] at hb_358
                        simp only at hb_358
                        obtain ⟨⟨hb_3581, hb_3582, hb_3583, hb_3584, hb_3585, hb_3586⟩, hgq_358_0, hN_358, hbO_358⟩ := hb_358
                        have hh_358 : jSt (dC, dI) B base G0 G_358 EX7_proof s.heap (((m_qa_343 - n_pa) / 16) + ((m_qa_358 - m_qa_343) / 16)) ((2 * (m_qa_343 - n_pa)) + (2 * (m_qa_358 - m_qa_343))) [(r2, 2, 1, .int qc_358), (r2, 2, 0, .ref qa_358), (el_57, 5, 3, .ref formula_342), (el_57, 5, 1, .ref names_323), (el_57, 5, 0, .ref variables_309), (el_57, 5, 2, .ref hypotheses_60), (r1, 11, 8, .ref goals_42), (r0, 9, 0, .ref names_16), (r1, 11, 6, .int lemma_4)] [] [] H_358 locs_358 := (hh_357.callG hb_3581 hb_3582 hb_3583 hb_3584 hb_3585 hS_358 rfl (L1 := [(el_57, 5, 3, .ref formula_342), (el_57, 5, 1, .ref names_323), (el_57, 5, 0, .ref variables_309), (el_57, 5, 2, .ref hypotheses_60), (r1, 11, 8, .ref goals_42), (r0, 9, 0, .ref names_16), (r1, 11, 6, .int lemma_4)]) [2, 3, 4, 5, 6, 7, 8] rfl rfl (M1 := []) [] rfl rfl (I1 := []) [] rfl rfl).more hb_3586
                        have hNn_358 : (jNk [0, 1, 2, 3, 4, 5, 6, 7, 8, 9, 10, 11, 12, 13, 14, 15, 16, 17, 175]) G0 G_358 := (hNn_343).tr hN_358
                        have hg_360 := hb_3582 _ _ hg_345
                        have hg_361 := hb_3582 _ _ hg_346
                        have hg_362 := hb_3582 _ _ hg_347
                        have hg_363 := hb_3582 _ _ hg_348
                        have hg_364 := hb_3582 _ _ hg_349
                        have hg_365 := hb_3582 _ _ hg_350
                        have hg_366 := hb_3582 _ _ hg_351
                        have hg_367 := hb_3582 _ _ hg_352
                        have hg_368 := hb_3582 _ _ hg_353
                        have hg_369 := hb_3582 _ _ hg_354
                        have hd_370 := jOw.tr (hh_357.iv 0 rfl) hh_357.2.2.2.2.1 hbO_358
                        have hh_371 := hh_358.addI (jOw.ie (dC := dC) (dI := dI) (G0 := G0) (k := 2) (r := r2) (H0 := s.heap) (F := [(2, 0), (2, 1)]) (C := RX0) (T := TX0) (N := 2) rfl (by decide) hh_358.2.2.2.2.1 (hd_370))
                        clear hh_358
                        try simp only at hr_359
                        obtain ⟨hr_359_0, hr_359_1, hr_359_2, hr_359_3, hr_359_4⟩ := hr_359
                        have hh_372 := hh_371.wk (zc1 := (m_qa_358 - n_pa) / 16) (zs1 := 2 * (m_qa_358 - n_pa)) (by omega) (by omega)
                        clear hh_371
                        try clear hsz_358 htt_358 hrc_358 hrs_358
                        try clear hb_3584 hb_3585
                        obtain ⟨z_373, ez_373⟩ : ∃ y : Int32, y = v3_35 + 1 := ⟨_, rfl⟩
                        refine lv_iinc (v := z_373) (lv' := [(3, .int z_373), (0, .ref r0), (1, .ref r1), (2, .ref r2), (4, .ref el_57), (5, .int v5_312)]) hx hb dX7_proof_211 hl (k := 3) rfl (by rw [ez_373]; rfl) (by decide) rfl (fun ls hl => ?_)
                        have hz_373 : z_373.toInt = v3_35.toInt + 1 := by rw [ez_373]; exact jb_iadd2 (rfl) (by decide) (by omega)
                        refine lv_goto (tgt := 41) hx hb dX7_proof_214 (by decide) ?_
                        refine W.tight (c2 := ((m_qa_358 - n_pa) / 16)) (n2 := (2 * (m_qa_358 - n_pa))) hh_372.2.2.2.2.2.1 hh_372.2.2.2.2.2.2.1 ?_
                        exact L41 G_358 ((m_qa_358 - n_pa) / 16) (2 * (m_qa_358 - n_pa)) z_373 qc_358 qa_358 m_qa_358 _ _ (hh_372.sub (L1 := [(r2, 2, 1, .int qc_358), (r2, 2, 0, .ref qa_358), (r0, 9, 0, .ref names_16), (r1, 11, 6, .int lemma_4)]) [0, 1, 7, 8] rfl (M1 := []) [] rfl (I1 := [([(2, 0), (2, 1)], jOw (dC, dI) G0 2 r2 s.heap)]) [0] rfl) (hNn_358) (((((((hle_35).tr hb_2872).tr hle_299).tr hle_312).tr hb_3262).tr hb_3432).tr hb_3582) hgq_358_0 (⟨(by first | omega | rfl | assumption | fail), (by first | omega | rfl | assumption | fail), (by first | omega | rfl | assumption | fail), (by first | omega | rfl | assumption | fail), (by first | assumption | fail | omega), (by first | omega | rfl | assumption | fail), (by first | omega | rfl | assumption | fail), (by first | omega | rfl | assumption | fail), (by first | omega | rfl | assumption | fail)⟩) (by omega) _ (lv_sub hl [1, 2, 3, 0] rfl)
                      · skip
                        have c_325' : v5_312.toInt < z_324.toInt := jb_ge_n (rfl) (rfl) c_325
                        refine lv_iload hx hb dX7_proof_130 (lv_at hl 5 rfl) ?_
                        refine lv_aload hx hb dX7_proof_132 (lv_at hl 4 rfl) ?_
                        refine j7_read hx hb hown hK (C := RX3) (T := TX3) (N := 4) rfl hly_5_2 hlk_68 (hh_322.at 4 rfl) dX7_proof_134 ?_
                        refine j7_qlen hx hb hK5.1 hh_322 hB313 0 rfl (by decide) hg_318 (by omega) dX7_proof_137 (fun z_374 hz_374 => ?_)
                        refine lv_icmp_ge (tgt := 189) hx hb dX7_proof_138 (by decide) (fun c_375 => ?_) (fun c_375 => ?_)
                        · skip
                          have c_375' : v5_312.toInt ≥ z_374.toInt := jb_ge (rfl) (rfl) c_375
                          refine lv_aload_n hx hb dX7_proof_189 rfl (lv_at hl 2 rfl) ?_
                          refine va_ldcS hx hb hown rstr80 dX7_proof_190 ?_
                          have hsz_376 := hh_322.2.2.2.2.2.1
                          have htt_376 := hh_322.2.2.2.2.2.2.1
                          refine W.room (fun hrc_376 hrs_376 => ?_)
                          refine va_callv (A0 := jA base) (H0 := s.heap) (va_runV (As := [.ref str80]) (rest := []) ⟨hx, hb, hml, hown, hts⟩ (uX0_text l dC dI ca base B hB hAp hB2 hB196 Gx_312 H_312 r2 str80 3 wc_312 wr_312 m_wr_312 LC LS) (cwV 1 hts (jgV (jWr_31 _ (List.mem_of_getElem? (i := 16) rfl)) (jWr_25 _ (List.mem_of_getElem? (i := 22) rfl)) (jWr_25 _ (List.mem_of_getElem? (i := 23) rfl)) (jWr_1 _ (List.mem_of_getElem? (i := 14) rfl)) (jWr_26 _ (List.mem_of_getElem? (i := 0) rfl))) rfl rfl rfl (by decide +kernel) ⟨by rw [← hR]; exact Nat.le_of_ble_eq_true rfl, by rw [← hR]; exact Nat.le_of_ble_eq_true rfl⟩) ⟨fun a U g mk q => by obtain ⟨q0, q1, q2, qK, q10, q11, q12, q13, q14⟩ := q; exact ⟨q0, q1, q2, jG.calling g mk a qK, (q10.moved (Vm.Alike.refl U.vm)), q11, q12, q13, q14⟩, hh_322.recv (C := RX0) (T := TX0) (N := 2) hB2 rfl (by decide) hg_315 hK, fun U hU hW => ⟨rfl, hU, hh_322.2.1, hG.step hW hU hh_322.1, (hstr80.moved hW.alike).kept hh_322.1.2.1, hg_315, hg_wr_312, (hh_322.2.2.1.sub (L1 := [(r2, 2, 1, .int wc_312), (r2, 2, 0, .ref wr_312)]) [1, 2] rfl), (by omega), (by omega), ⟨(by first | omega | rfl | assumption | fail), (by first | omega | rfl | assumption | fail), (by first | omega | rfl | assumption | fail), (by first | omega | rfl | assumption | fail), (by first | assumption | fail | omega), (by first | omega | rfl | assumption | fail)⟩⟩⟩ rfl rfl hl.1 rfl (lv_room (Nat.le_of_ble_eq_true rfl)) dX7_proof_192 ⟨by rw [hRc]; omega, by rw [hRs]; omega⟩) hh_322.1 (fun q _ h => h) (fun q h => h) (fun u_376 t_376 H_376 locs_376 ht_376 hvm_376 hr_377 hb_376 hz_376 hk_376 hS_376 => ?_)
                          obtain ⟨qc_376, qa_376, m_qa_376, G_376⟩ := u_376
                          rw [ht_376] at hb_376
                          simp only at hb_376
                          obtain ⟨⟨hb_3761, hb_3762, hb_3763, hb_3764, hb_3765, hb_3766⟩, hgq_376_0, hN_376, hbO_376⟩ := hb_376
                          have hh_376 : jSt (dC, dI) B base G0 G_376 EX7_proof s.heap (zcx_312 + ((m_qa_376 - m_wr_312) / 16)) (zsx_312 + (2 * (m_qa_376 - m_wr_312))) [(r2, 2, 1, .int qc_376), (r2, 2, 0, .ref qa_376), (el_57, 5, 1, .ref names_323), (el_57, 5, 0, .ref variables_309), (el_57, 5, 2, .ref hypotheses_60), (r1, 11, 8, .ref goals_42), (r0, 9, 0, .ref names_16), (r1, 11, 6, .int lemma_4)] [] [] H_376 locs_376 := (hh_322.callG hb_3761 hb_3762 hb_3763 hb_3764 hb_3765 hS_376 rfl (L1 := [(el_57, 5, 1, .ref names_323), (el_57, 5, 0, .ref variables_309), (el_57, 5, 2, .ref hypotheses_60), (r1, 11, 8, .ref goals_42), (r0, 9, 0, .ref names_16), (r1, 11, 6, .int lemma_4)]) [0, 3, 4, 5, 6, 7] rfl rfl (M1 := []) [] rfl rfl (I1 := []) [] rfl rfl).more hb_3766
                          have hNn_376 : (jNk [0, 1, 2, 3, 4, 5, 6, 7, 8, 9, 10, 11, 12, 13, 14, 15, 16, 17, 175]) G0 G_376 := (hN_312).tr hN_376
                          have hg_378 := hb_3762 _ _ hg_313
                          have hg_379 := hb_3762 _ _ hg_314
                          have hg_380 := hb_3762 _ _ hg_315
                          have hg_381 := hb_3762 _ _ hg_316
                          have hg_382 := hb_3762 _ _ hg_names_323
                          have hg_383 := hb_3762 _ _ hg_317
                          have hg_384 := hb_3762 _ _ hg_318
                          have hg_385 := hb_3762 _ _ hg_319
                          have hg_386 := hb_3762 _ _ hg_320
                          have hd_387 := jOw.tr (hh_322.iv 0 rfl) hh_322.2.2.2.2.1 hbO_376
                          have hh_388 := hh_376.addI (jOw.ie (dC := dC) (dI := dI) (G0 := G0) (k := 2) (r := r2) (H0 := s.heap) (F := [(2, 0), (2, 1)]) (C := RX0) (T := TX0) (N := 2) rfl (by decide) hh_376.2.2.2.2.1 (hd_387))
                          clear hh_376
                          try simp only at hr_377
                          obtain ⟨hr_377_0, hr_377_1, hr_377_2, hr_377_3, hr_377_4⟩ := hr_377
                          have hh_389 := hh_388.wk (zc1 := (m_qa_376 - n_pa) / 16) (zs1 := 2 * (m_qa_376 - n_pa)) (by omega) (by omega)
                          clear hh_388
                          try clear hsz_376 htt_376 hrc_376 hrs_376
                          try clear hb_3764 hb_3765
                          refine lv_aload_n hx hb dX7_proof_195 rfl (lv_at hl 0 rfl) ?_
                          refine lv_aload hx hb dX7_proof_196 (lv_at hl 4 rfl) ?_
                          obtain ⟨v_390, hv_390, hh_391⟩ := hh_389.pin (C := RX3) (T := TX3) (N := 4) hB5 rfl (by decide) hg_381 (i := 3) (by decide) rfl
                          clear hh_389
                          rcases hv_390 with ⟨rfl, hcv_390⟩ | ⟨formula_392, nformula_392, rfl, hg_formula_392, hn_formula_392, hcv_390, hdv_390⟩
                          · exact absurd hcv_390 (by omega)
                          refine j7_read hx hb hown hK (C := RX3) (T := TX3) (N := 4) rfl hly_5_3 hlk_82 (hh_391.at 0 rfl) dX7_proof_198 ?_
                          refine lv_aload_n hx hb dX7_proof_201 rfl (lv_at hl 2 rfl) ?_
                          have hsz_393 := hh_391.2.2.2.2.2.1
                          have htt_393 := hh_391.2.2.2.2.2.2.1
                          refine W.room (fun hrc_393 hrs_393 => ?_)
                          refine va_callv (A0 := jA base) (H0 := s.heap) (va_runV (As := [.ref formula_392, .ref r2]) (rest := []) ⟨hx, hb, hml, hown, hts⟩ (uX7_formula l dC dI ca base B hB hAp hB2 hB8 hB9 hB102 hB132 hB196 hB280 hB286 hB287 hB288 G_376 H_376 r0 formula_392 r2 nformula_392 qc_376 qa_376 m_qa_376 LC LS) (cwV 2 hts (jgV (jWr_31 _ (List.mem_of_getElem? (i := 3) rfl)) (jWr_31 _ (List.mem_of_getElem? (i := 4) rfl)) (jWr_31 _ (List.mem_of_getElem? (i := 5) rfl)) (jWr_2 _ (List.mem_of_getElem? (i := 8) rfl)) (jWr_31 _ (List.mem_of_getElem? (i := 6) rfl))) rfl rfl rfl (by decide +kernel) ⟨by rw [← hR]; exact Nat.le_of_ble_eq_true rfl, by rw [← hR]; exact Nat.le_of_ble_eq_true rfl⟩) ⟨fun a U g mk q => by obtain ⟨q0, q1, q2, qK, q10, q11, q12, q13, q14, q15⟩ := q; exact ⟨q0, q1, q2, jG.calling g mk a qK, q10, q11, q12, q13, q14, q15⟩, hh_391.recv (C := RX7) (T := TX7) (N := 5) hB9 rfl (by decide) hg_378 hK, fun U hU hW => ⟨rfl, hU, hh_391.2.1, hG.step hW hU hh_391.1, hg_380, hg_formula_392, hg_378, hgq_376_0, (hh_391.2.2.1.sub (L1 := [(r2, 2, 1, .int qc_376), (r2, 2, 0, .ref qa_376)]) [1, 2] rfl), (by omega), (by omega), ⟨(by first | omega | rfl | assumption | fail), (by first | omega | rfl | assumption | fail), (by first | omega | rfl | assumption | fail), (by first | omega | rfl | assumption | fail), (by first | assumption | fail | omega), (by first | omega | rfl | assumption | fail)⟩⟩⟩ rfl rfl hl.1 rfl (lv_room (Nat.le_of_ble_eq_true rfl)) dX7_proof_202 ⟨by rw [hRc]; omega, by rw [hRs]; omega⟩) hh_391.1 (fun q _ h => h) (fun q h => h) (fun u_393 t_393 H_393 locs_393 ht_393 hvm_393 hr_394 hb_393 hz_393 hk_393 hS_393 => ?_)
                          obtain ⟨qc_393, qa_393, m_qa_393, G_393⟩ := u_393
                          rw [ht_393] at hb_393
                          simp only at hb_393
                          obtain ⟨⟨hb_3931, hb_3932, hb_3933, hb_3934, hb_3935, hb_3936⟩, hgq_393_0, hN_393, hbO_393⟩ := hb_393
                          have hh_393 : jSt (dC, dI) B base G0 G_393 EX7_proof s.heap (((m_qa_376 - n_pa) / 16) + ((m_qa_393 - m_qa_376) / 16)) ((2 * (m_qa_376 - n_pa)) + (2 * (m_qa_393 - m_qa_376))) [(r2, 2, 1, .int qc_393), (r2, 2, 0, .ref qa_393), (el_57, 5, 3, .ref formula_392), (el_57, 5, 1, .ref names_323), (el_57, 5, 0, .ref variables_309), (el_57, 5, 2, .ref hypotheses_60), (r1, 11, 8, .ref goals_42), (r0, 9, 0, .ref names_16), (r1, 11, 6, .int lemma_4)] [] [] H_393 locs_393 := (hh_391.callG hb_3931 hb_3932 hb_3933 hb_3934 hb_3935 hS_393 rfl (L1 := [(el_57, 5, 3, .ref formula_392), (el_57, 5, 1, .ref names_323), (el_57, 5, 0, .ref variables_309), (el_57, 5, 2, .ref hypotheses_60), (r1, 11, 8, .ref goals_42), (r0, 9, 0, .ref names_16), (r1, 11, 6, .int lemma_4)]) [0, 3, 4, 5, 6, 7, 8] rfl rfl (M1 := []) [] rfl rfl (I1 := []) [] rfl rfl).more hb_3936
                          have hNn_393 : (jNk [0, 1, 2, 3, 4, 5, 6, 7, 8, 9, 10, 11, 12, 13, 14, 15, 16, 17, 175]) G0 G_393 := (hNn_376).tr hN_393
                          have hg_395 := hb_3932 _ _ hg_378
                          have hg_396 := hb_3932 _ _ hg_379
                          have hg_397 := hb_3932 _ _ hg_380
                          have hg_398 := hb_3932 _ _ hg_381
                          have hg_399 := hb_3932 _ _ hg_formula_392
                          have hg_400 := hb_3932 _ _ hg_382
                          have hg_401 := hb_3932 _ _ hg_383
                          have hg_402 := hb_3932 _ _ hg_384
                          have hg_403 := hb_3932 _ _ hg_385
                          have hg_404 := hb_3932 _ _ hg_386
                          have hd_405 := jOw.tr (hh_391.iv 0 rfl) hh_391.2.2.2.2.1 hbO_393
                          have hh_406 := hh_393.addI (jOw.ie (dC := dC) (dI := dI) (G0 := G0) (k := 2) (r := r2) (H0 := s.heap) (F := [(2, 0), (2, 1)]) (C := RX0) (T := TX0) (N := 2) rfl (by decide) hh_393.2.2.2.2.1 (hd_405))
                          clear hh_393
                          try simp only at hr_394
                          obtain ⟨hr_394_0, hr_394_1, hr_394_2, hr_394_3, hr_394_4⟩ := hr_394
                          have hh_407 := hh_406.wk (zc1 := (m_qa_393 - n_pa) / 16) (zs1 := 2 * (m_qa_393 - n_pa)) (by omega) (by omega)
                          clear hh_406
                          try clear hsz_393 htt_393 hrc_393 hrs_393
                          try clear hb_3934 hb_3935
                          refine lv_aload_n hx hb dX7_proof_205 rfl (lv_at hl 2 rfl) ?_
                          refine lv_bipush (v := 34) hx hb dX7_proof_206 (by decide) ?_
                          have hsz_408 := hh_407.2.2.2.2.2.1
                          have htt_408 := hh_407.2.2.2.2.2.2.1
                          refine W.room (fun hrc_408 hrs_408 => ?_)
                          refine va_callv (A0 := jA base) (H0 := s.heap) (va_runV (As := [.int 34]) (rest := []) ⟨hx, hb, hml, hown, hts⟩ (uX0_put l dC dI ca base B hB hAp hB2 hB196 G_393 H_393 r2 34 qc_393 qa_393 m_qa_393 LC LS) (cwV 1 hts (jgV (jWr_31 _ (List.mem_of_getElem? (i := 2) rfl)) (jWr_16 _ (List.mem_of_getElem? (i := 0) rfl)) (jWr_16 _ (List.mem_of_getElem? (i := 1) rfl)) (jWr_1 _ (List.mem_of_getElem? (i := 14) rfl)) (jWr_16 _ (List.mem_of_getElem? (i := 2) rfl))) rfl rfl rfl (by decide +kernel) ⟨by rw [← hR]; exact Nat.le_of_ble_eq_true rfl, by rw [← hR]; exact Nat.le_of_ble_eq_true rfl⟩) ⟨fun a U g mk q => by obtain ⟨q0, q1, q2, qK, q10, q11, q12, q13⟩ := q; exact ⟨q0, q1, q2, jG.calling g mk a qK, q10, q11, q12, q13⟩, hh_407.recv (C := RX0) (T := TX0) (N := 2) hB2 rfl (by decide) hg_397 hK, fun U hU hW => ⟨rfl, hU, hh_407.2.1, hG.step hW hU hh_407.1, hg_397, hgq_393_0, (hh_407.2.2.1.sub (L1 := [(r2, 2, 1, .int qc_393), (r2, 2, 0, .ref qa_393)]) [0, 1] rfl), (by omega), (by omega), ⟨(by first | omega | rfl | assumption | fail), (by first | omega | rfl | assumption | fail), (by first | omega | rfl | assumption | fail), (by first | omega | rfl | assumption | fail), (by first | assumption | fail | omega)⟩⟩⟩ rfl rfl hl.1 rfl (lv_room (Nat.le_of_ble_eq_true rfl)) dX7_proof_208 ⟨by rw [hRc]; omega, by rw [hRs]; omega⟩) hh_407.1 (fun q _ h => h) (fun q h => h) (fun u_408 t_408 H_408 locs_408 ht_408 hvm_408 hr_409 hb_408 hz_408 hk_408 hS_408 => ?_)
                          obtain ⟨qc_408, qa_408, m_qa_408, G_408⟩ := u_408
                          rw [ht_408] at hb_408
                          simp only at hb_408
                          obtain ⟨⟨hb_4081, hb_4082, hb_4083, hb_4084, hb_4085, hb_4086⟩, hgq_408_0, hN_408, hbO_408⟩ := hb_408
                          have hh_408 : jSt (dC, dI) B base G0 G_408 EX7_proof s.heap (((m_qa_393 - n_pa) / 16) + ((m_qa_408 - m_qa_393) / 16)) ((2 * (m_qa_393 - n_pa)) + (2 * (m_qa_408 - m_qa_393))) [(r2, 2, 1, .int qc_408), (r2, 2, 0, .ref qa_408), (el_57, 5, 3, .ref formula_392), (el_57, 5, 1, .ref names_323), (el_57, 5, 0, .ref variables_309), (el_57, 5, 2, .ref hypotheses_60), (r1, 11, 8, .ref goals_42), (r0, 9, 0, .ref names_16), (r1, 11, 6, .int lemma_4)] [] [] H_408 locs_408 := (hh_407.callG hb_4081 hb_4082 hb_4083 hb_4084 hb_4085 hS_408 rfl (L1 := [(el_57, 5, 3, .ref formula_392), (el_57, 5, 1, .ref names_323), (el_57, 5, 0, .ref variables_309), (el_57, 5, 2, .ref hypotheses_60), (r1, 11, 8, .ref goals_42), (r0, 9, 0, .ref names_16), (r1, 11, 6, .int lemma_4)]) [2, 3, 4, 5, 6, 7, 8] rfl rfl (M1 := []) [] rfl rfl (I1 := []) [] rfl rfl).more hb_4086
                          have hNn_408 : (jNk [0, 1, 2, 3, 4, 5, 6, 7, 8, 9, 10, 11, 12, 13, 14, 15, 16, 17, 175]) G0 G_408 := (hNn_393).tr hN_408
                          have hg_410 := hb_4082 _ _ hg_395
                          have hg_411 := hb_4082 _ _ hg_396
                          have hg_412 := hb_4082 _ _ hg_397
                          have hg_413 := hb_4082 _ _ hg_398
                          have hg_414 := hb_4082 _ _ hg_399
                          have hg_415 := hb_4082 _ _ hg_400
                          have hg_416 := hb_4082 _ _ hg_401
                          have hg_417 := hb_4082 _ _ hg_402
                          have hg_418 := hb_4082 _ _ hg_403
                          have hg_419 := hb_4082 _ _ hg_404
                          have hd_420 := jOw.tr (hh_407.iv 0 rfl) hh_407.2.2.2.2.1 hbO_408
                          have hh_421 := hh_408.addI (jOw.ie (dC := dC) (dI := dI) (G0 := G0) (k := 2) (r := r2) (H0 := s.heap) (F := [(2, 0), (2, 1)]) (C := RX0) (T := TX0) (N := 2) rfl (by decide) hh_408.2.2.2.2.1 (hd_420))
                          clear hh_408
                          try simp only at hr_409
                          obtain ⟨hr_409_0, hr_409_1, hr_409_2, hr_409_3, hr_409_4⟩ := hr_409
                          have hh_422 := hh_421.wk (zc1 := (m_qa_408 - n_pa) / 16) (zs1 := 2 * (m_qa_408 - n_pa)) (by omega) (by omega)
                          clear hh_421
                          try clear hsz_408 htt_408 hrc_408 hrs_408
                          try clear hb_4084 hb_4085
                          obtain ⟨z_423, ez_423⟩ : ∃ y : Int32, y = v3_35 + 1 := ⟨_, rfl⟩
                          refine lv_iinc (v := z_423) (lv' := [(3, .int z_423), (0, .ref r0), (1, .ref r1), (2, .ref r2), (4, .ref el_57), (5, .int v5_312)]) hx hb dX7_proof_211 hl (k := 3) rfl (by rw [ez_423]; rfl) (by decide) rfl (fun ls hl => ?_)
                          have hz_423 : z_423.toInt = v3_35.toInt + 1 := by rw [ez_423]; exact jb_iadd2 (rfl) (by decide) (by omega)
                          refine lv_goto (tgt := 41) hx hb dX7_proof_214 (by decide) ?_
                          refine W.tight (c2 := ((m_qa_408 - n_pa) / 16)) (n2 := (2 * (m_qa_408 - n_pa))) hh_422.2.2.2.2.2.1 hh_422.2.2.2.2.2.2.1 ?_
                          exact L41 G_408 ((m_qa_408 - n_pa) / 16) (2 * (m_qa_408 - n_pa)) z_423 qc_408 qa_408 m_qa_408 _ _ (hh_422.sub (L1 := [(r2, 2, 1, .int qc_408), (r2, 2, 0, .ref qa_408), (r0, 9, 0, .ref names_16), (r1, 11, 6, .int lemma_4)]) [0, 1, 7, 8] rfl (M1 := []) [] rfl (I1 := [([(2, 0), (2, 1)], jOw (dC, dI) G0 2 r2 s.heap)]) [0] rfl) (hNn_408) (((((((hle_35).tr hb_2872).tr hle_299).tr hle_312).tr hb_3762).tr hb_3932).tr hb_4082) hgq_408_0 (⟨(by first | omega | rfl | assumption | fail), (by first | omega | rfl | assumption | fail), (by first | omega | rfl | assumption | fail), (by first | omega | rfl | assumption | fail), (by first | assumption | fail | omega), (by first | omega | rfl | assumption | fail), (by first | omega | rfl | assumption | fail), (by first | omega | rfl | assumption | fail), (by first | omega | rfl | assumption | fail)⟩) (by omega) _ (lv_sub hl [1, 2, 3, 0] rfl)
                        · skip
                          have c_375' : v5_312.toInt < z_374.toInt := jb_ge_n (rfl) (rfl) c_375
                          refine lv_aload_n hx hb dX7_proof_141 rfl (lv_at hl 0 rfl) ?_
                          refine j7_read hx hb hown hK (C := RX7) (T := TX7) (N := 5) rfl hly_9_0 hlk_21 (hh_322.at 6 rfl) dX7_proof_142 ?_
                          refine lv_aload hx hb dX7_proof_145 (lv_at hl 4 rfl) ?_
                          refine j7_read hx hb hown hK (C := RX3) (T := TX3) (N := 4) rfl hly_5_1 hlk_66 (hh_322.at 0 rfl) dX7_proof_147 ?_
                          refine lv_iload hx hb dX7_proof_150 (lv_at hl 5 rfl) ?_
                          refine j7_iald hx hb hK hh_322 hB101 1 rfl (by decide) hg_names_323 (x := v5_312.toInt) (rfl) (by omega) dX7_proof_152 (fun z_424 (hz_424 : True) => ?_)
                          refine lv_iconst (v := 0) hx hb dX7_proof_153 (by decide) ?_
                          refine lv_aload_n hx hb dX7_proof_154 rfl (lv_at hl 2 rfl) ?_
                          have hsz_425 := hh_322.2.2.2.2.2.1
                          have htt_425 := hh_322.2.2.2.2.2.2.1
                          refine W.room (fun hrc_425 hrs_425 => ?_)
                          refine va_callv (A0 := jA base) (H0 := s.heap) (va_runV (As := [.int z_424, .int 0, .ref r2]) (rest := []) ⟨hx, hb, hml, hown, hts⟩ (uX6_write l dC dI ca base B hB hAp hB2 hB8 hB102 hB132 hB196 Gx_312 H_312 names_16 z_424 0 r2 wc_312 wr_312 m_wr_312 LC LS) (cwV 3 hts (jgV (jWr_31 _ (List.mem_of_getElem? (i := 17) rfl)) (jWr_31 _ (List.mem_of_getElem? (i := 18) rfl)) (jWr_31 _ (List.mem_of_getElem? (i := 19) rfl)) (jWr_4 _ (List.mem_of_getElem? (i := 10) rfl)) (jWr_31 _ (List.mem_of_getElem? (i := 20) rfl))) rfl rfl rfl (by decide +kernel) ⟨by rw [← hR]; exact Nat.le_of_ble_eq_true rfl, by rw [← hR]; exact Nat.le_of_ble_eq_true rfl⟩) ⟨fun a U g mk q => by obtain ⟨q0, q1, q2, qK, q10, q11, q12, q13, q14⟩ := q; exact ⟨q0, q1, q2, jG.calling g mk a qK, q10, q11, q12, q13, q14⟩, hh_322.recv (C := RX6) (T := TX6) (N := 4) hB8 rfl (by decide) hg_320 hK, fun U hU hW => ⟨rfl, hU, hh_322.2.1, hG.step hW hU hh_322.1, hg_315, hg_320, hg_wr_312, (hh_322.2.2.1.sub (L1 := [(r2, 2, 1, .int wc_312), (r2, 2, 0, .ref wr_312)]) [1, 2] rfl), (by omega), (by omega), ⟨(by first | omega | rfl | assumption | fail), (by first | omega | rfl | assumption | fail), (by first | omega | rfl | assumption | fail), (by first | omega | rfl | assumption | fail), (by first | assumption | fail | omega)⟩⟩⟩ rfl rfl hl.1 rfl (lv_room (Nat.le_of_ble_eq_true rfl)) dX7_proof_155 ⟨by rw [hRc]; omega, by rw [hRs]; omega⟩) hh_322.1 (fun q _ h => h) (fun q h => h) (fun u_425 t_425 H_425 locs_425 ht_425 hvm_425 hr_426 hb_425 hz_425 hk_425 hS_425 => ?_)
                          obtain ⟨qc_425, qa_425, m_qa_425, G_425⟩ := u_425
                          rw [ht_425] at hb_425
                          simp only at hb_425
                          obtain ⟨⟨hb_4251, hb_4252, hb_4253, hb_4254, hb_4255, hb_4256⟩, hgq_425_0, hN_425, hbO_425⟩ := hb_425
                          have hh_425 : jSt (dC, dI) B base G0 G_425 EX7_proof s.heap (zcx_312 + ((m_qa_425 - m_wr_312) / 16)) (zsx_312 + (2 * (m_qa_425 - m_wr_312))) [(r2, 2, 1, .int qc_425), (r2, 2, 0, .ref qa_425), (el_57, 5, 1, .ref names_323), (el_57, 5, 0, .ref variables_309), (el_57, 5, 2, .ref hypotheses_60), (r1, 11, 8, .ref goals_42), (r0, 9, 0, .ref names_16), (r1, 11, 6, .int lemma_4)] [] [] H_425 locs_425 := (hh_322.callG hb_4251 hb_4252 hb_4253 hb_4254 hb_4255 hS_425 rfl (L1 := [(el_57, 5, 1, .ref names_323), (el_57, 5, 0, .ref variables_309), (el_57, 5, 2, .ref hypotheses_60), (r1, 11, 8, .ref goals_42), (r0, 9, 0, .ref names_16), (r1, 11, 6, .int lemma_4)]) [0, 3, 4, 5, 6, 7] rfl rfl (M1 := []) [] rfl rfl (I1 := []) [] rfl rfl).more hb_4256
                          have hNn_425 : (jNk [0, 1, 2, 3, 4, 5, 6, 7, 8, 9, 10, 11, 12, 13, 14, 15, 16, 17, 175]) G0 G_425 := (hN_312).tr hN_425
                          have hg_427 := hb_4252 _ _ hg_313
                          have hg_428 := hb_4252 _ _ hg_314
                          have hg_429 := hb_4252 _ _ hg_315
                          have hg_430 := hb_4252 _ _ hg_316
                          have hg_431 := hb_4252 _ _ hg_names_323
                          have hg_432 := hb_4252 _ _ hg_317
                          have hg_433 := hb_4252 _ _ hg_318
                          have hg_434 := hb_4252 _ _ hg_319
                          have hg_435 := hb_4252 _ _ hg_320
                          have hd_436 := jOw.tr (hh_322.iv 0 rfl) hh_322.2.2.2.2.1 hbO_425
                          have hh_437 := hh_425.addI (jOw.ie (dC := dC) (dI := dI) (G0 := G0) (k := 2) (r := r2) (H0 := s.heap) (F := [(2, 0), (2, 1)]) (C := RX0) (T := TX0) (N := 2) rfl (by decide) hh_425.2.2.2.2.1 (hd_436))
                          clear hh_425
                          try simp only at hr_426
                          obtain ⟨hr_426_0, hr_426_1, hr_426_2, hr_426_3, hr_426_4⟩ := hr_426
                          have hh_438 := hh_437.wk (zc1 := (m_qa_425 - n_pa) / 16) (zs1 := 2 * (m_qa_425 - n_pa)) (by omega) (by omega)
                          clear hh_437
                          try clear hsz_425 htt_425 hrc_425 hrs_425
                          try clear hb_4254 hb_4255
                          refine lv_aload_n hx hb dX7_proof_158 rfl (lv_at hl 2 rfl) ?_
                          refine va_ldcS hx hb hown rstr72 dX7_proof_159 ?_
                          have hsz_439 := hh_438.2.2.2.2.2.1
                          have htt_439 := hh_438.2.2.2.2.2.2.1
                          refine W.room (fun hrc_439 hrs_439 => ?_)
                          refine va_callv (A0 := jA base) (H0 := s.heap) (va_runV (As := [.ref str72]) (rest := []) ⟨hx, hb, hml, hown, hts⟩ (uX0_text l dC dI ca base B hB hAp hB2 hB196 G_425 H_425 r2 str72 3 qc_425 qa_425 m_qa_425 LC LS) (cwV 1 hts (jgV (jWr_31 _ (List.mem_of_getElem? (i := 16) rfl)) (jWr_25 _ (List.mem_of_getElem? (i := 22) rfl)) (jWr_25 _ (List.mem_of_getElem? (i := 23) rfl)) (jWr_1 _ (List.mem_of_getElem? (i := 14) rfl)) (jWr_26 _ (List.mem_of_getElem? (i := 0) rfl))) rfl rfl rfl (by decide +kernel) ⟨by rw [← hR]; exact Nat.le_of_ble_eq_true rfl, by rw [← hR]; exact Nat.le_of_ble_eq_true rfl⟩) ⟨fun a U g mk q => by obtain ⟨q0, q1, q2, qK, q10, q11, q12, q13, q14⟩ := q; exact ⟨q0, q1, q2, jG.calling g mk a qK, (q10.moved (Vm.Alike.refl U.vm)), q11, q12, q13, q14⟩, hh_438.recv (C := RX0) (T := TX0) (N := 2) hB2 rfl (by decide) hg_429 hK, fun U hU hW => ⟨rfl, hU, hh_438.2.1, hG.step hW hU hh_438.1, (hstr72.moved hW.alike).kept hh_438.1.2.1, hg_429, hgq_425_0, (hh_438.2.2.1.sub (L1 := [(r2, 2, 1, .int qc_425), (r2, 2, 0, .ref qa_425)]) [0, 1] rfl), (by omega), (by omega), ⟨(by first | omega | rfl | assumption | fail), (by first | omega | rfl | assumption | fail), (by first | omega | rfl | assumption | fail), (by first | omega | rfl | assumption | fail), (by first | assumption | fail | omega), (by first | omega | rfl | assumption | fail)⟩⟩⟩ rfl rfl hl.1 rfl (lv_room (Nat.le_of_ble_eq_true rfl)) dX7_proof_161 ⟨by rw [hRc]; omega, by rw [hRs]; omega⟩) hh_438.1 (fun q _ h => h) (fun q h => h) (fun u_439 t_439 H_439 locs_439 ht_439 hvm_439 hr_440 hb_439 hz_439 hk_439 hS_439 => ?_)
                          obtain ⟨qc_439, qa_439, m_qa_439, G_439⟩ := u_439
                          rw [ht_439] at hb_439
                          simp only at hb_439
                          obtain ⟨⟨hb_4391, hb_4392, hb_4393, hb_4394, hb_4395, hb_4396⟩, hgq_439_0, hN_439, hbO_439⟩ := hb_439
                          have hh_439 : jSt (dC, dI) B base G0 G_439 EX7_proof s.heap (((m_qa_425 - n_pa) / 16) + ((m_qa_439 - m_qa_425) / 16)) ((2 * (m_qa_425 - n_pa)) + (2 * (m_qa_439 - m_qa_425))) [(r2, 2, 1, .int qc_439), (r2, 2, 0, .ref qa_439), (el_57, 5, 1, .ref names_323), (el_57, 5, 0, .ref variables_309), (el_57, 5, 2, .ref hypotheses_60), (r1, 11, 8, .ref goals_42), (r0, 9, 0, .ref names_16), (r1, 11, 6, .int lemma_4)] [] [] H_439 locs_439 := (hh_438.callG hb_4391 hb_4392 hb_4393 hb_4394 hb_4395 hS_439 rfl (L1 := [(el_57, 5, 1, .ref names_323), (el_57, 5, 0, .ref variables_309), (el_57, 5, 2, .ref hypotheses_60), (r1, 11, 8, .ref goals_42), (r0, 9, 0, .ref names_16), (r1, 11, 6, .int lemma_4)]) [2, 3, 4, 5, 6, 7] rfl rfl (M1 := []) [] rfl rfl (I1 := []) [] rfl rfl).more hb_4396
                          have hNn_439 : (jNk [0, 1, 2, 3, 4, 5, 6, 7, 8, 9, 10, 11, 12, 13, 14, 15, 16, 17, 175]) G0 G_439 := (hNn_425).tr hN_439
                          have hg_441 := hb_4392 _ _ hg_427
                          have hg_442 := hb_4392 _ _ hg_428
                          have hg_443 := hb_4392 _ _ hg_429
                          have hg_444 := hb_4392 _ _ hg_430
                          have hg_445 := hb_4392 _ _ hg_431
                          have hg_446 := hb_4392 _ _ hg_432
                          have hg_447 := hb_4392 _ _ hg_433
                          have hg_448 := hb_4392 _ _ hg_434
                          have hg_449 := hb_4392 _ _ hg_435
                          have hd_450 := jOw.tr (hh_438.iv 0 rfl) hh_438.2.2.2.2.1 hbO_439
                          have hh_451 := hh_439.addI (jOw.ie (dC := dC) (dI := dI) (G0 := G0) (k := 2) (r := r2) (H0 := s.heap) (F := [(2, 0), (2, 1)]) (C := RX0) (T := TX0) (N := 2) rfl (by decide) hh_439.2.2.2.2.1 (hd_450))
                          clear hh_439
                          try simp only at hr_440
                          obtain ⟨hr_440_0, hr_440_1, hr_440_2, hr_440_3, hr_440_4⟩ := hr_440
                          have hh_452 := hh_451.wk (zc1 := (m_qa_439 - n_pa) / 16) (zs1 := 2 * (m_qa_439 - n_pa)) (by omega) (by omega)
                          clear hh_451
                          try clear hsz_439 htt_439 hrc_439 hrs_439
                          try clear hb_4394 hb_4395
                          refine lv_aload_n hx hb dX7_proof_164 rfl (lv_at hl 0 rfl) ?_
                          refine lv_aload hx hb dX7_proof_165 (lv_at hl 4 rfl) ?_
                          refine j7_read hx hb hown hK (C := RX3) (T := TX3) (N := 4) rfl hly_5_2 hlk_68 (hh_452.at 4 rfl) dX7_proof_167 ?_
                          refine lv_iload hx hb dX7_proof_170 (lv_at hl 5 rfl) ?_
                          refine j7_qaldA hx hb hK5 hh_452 hB313 (by decide) hg_447 (x := v5_312.toInt) (rfl) (by omega) dX7_proof_172 (fun o_453 ho_453 => ?_)
                          obtain ⟨el_454, nel_454, rfl, hg_el_454, hn_el_454⟩ := ho_453
                          simp only [va_rf]
                          refine lv_aload_n hx hb dX7_proof_173 rfl (lv_at hl 2 rfl) ?_
                          have hsz_455 := hh_452.2.2.2.2.2.1
                          have htt_455 := hh_452.2.2.2.2.2.2.1
                          refine W.room (fun hrc_455 hrs_455 => ?_)
                          refine va_callv (A0 := jA base) (H0 := s.heap) (va_runV (As := [.ref el_454, .ref r2]) (rest := []) ⟨hx, hb, hml, hown, hts⟩ (uX7_formula l dC dI ca base B hB hAp hB2 hB8 hB9 hB102 hB132 hB196 hB280 hB286 hB287 hB288 G_439 H_439 r0 el_454 r2 nel_454 qc_439 qa_439 m_qa_439 LC LS) (cwV 2 hts (jgV (jWr_31 _ (List.mem_of_getElem? (i := 3) rfl)) (jWr_31 _ (List.mem_of_getElem? (i := 4) rfl)) (jWr_31 _ (List.mem_of_getElem? (i := 5) rfl)) (jWr_2 _ (List.mem_of_getElem? (i := 8) rfl)) (jWr_31 _ (List.mem_of_getElem? (i := 6) rfl))) rfl rfl rfl (by decide +kernel) ⟨by rw [← hR]; exact Nat.le_of_ble_eq_true rfl, by rw [← hR]; exact Nat.le_of_ble_eq_true rfl⟩) ⟨fun a U g mk q => by obtain ⟨q0, q1, q2, qK, q10, q11, q12, q13, q14, q15⟩ := q; exact ⟨q0, q1, q2, jG.calling g mk a qK, q10, q11, q12, q13, q14, q15⟩, hh_452.recv (C := RX7) (T := TX7) (N := 5) hB9 rfl (by decide) hg_441 hK, fun U hU hW => ⟨rfl, hU, hh_452.2.1, hG.step hW hU hh_452.1, hg_443, hg_el_454, hg_441, hgq_439_0, (hh_452.2.2.1.sub (L1 := [(r2, 2, 1, .int qc_439), (r2, 2, 0, .ref qa_439)]) [0, 1] rfl), (by omega), (by omega), ⟨(by first | omega | rfl | assumption | fail), (by first | omega | rfl | assumption | fail), (by first | omega | rfl | assumption | fail), (by first | omega | rfl | assumption | fail), (by first | assumption | fail | omega), (by first | omega | rfl | assumption | fail)⟩⟩⟩ rfl rfl hl.1 rfl (lv_room (Nat.le_of_ble_eq_true rfl)) dX7_proof_174 ⟨by rw [hRc]; omega, by rw [hRs]; omega⟩) hh_452.1 (fun q _ h => h) (fun q h => h) (fun u_455 t_455 H_455 locs_455 ht_455 hvm_455 hr_456 hb_455 hz_455 hk_455 hS_455 => ?_)
                          obtain ⟨qc_455, qa_455, m_qa_455, G_455⟩ := u_455
                          rw [ht_455] at hb_455
                          simp only at hb_455
                          obtain ⟨⟨hb_4551, hb_4552, hb_4553, hb_4554, hb_4555, hb_4556⟩, hgq_455_0, hN_455, hbO_455⟩ := hb_455
                          have hh_455 : jSt (dC, dI) B base G0 G_455 EX7_proof s.heap (((m_qa_439 - n_pa) / 16) + ((m_qa_455 - m_qa_439) / 16)) ((2 * (m_qa_439 - n_pa)) + (2 * (m_qa_455 - m_qa_439))) [(r2, 2, 1, .int qc_455), (r2, 2, 0, .ref qa_455), (el_57, 5, 1, .ref names_323), (el_57, 5, 0, .ref variables_309), (el_57, 5, 2, .ref hypotheses_60), (r1, 11, 8, .ref goals_42), (r0, 9, 0, .ref names_16), (r1, 11, 6, .int lemma_4)] [] [] H_455 locs_455 := (hh_452.callG hb_4551 hb_4552 hb_4553 hb_4554 hb_4555 hS_455 rfl (L1 := [(el_57, 5, 1, .ref names_323), (el_57, 5, 0, .ref variables_309), (el_57, 5, 2, .ref hypotheses_60), (r1, 11, 8, .ref goals_42), (r0, 9, 0, .ref names_16), (r1, 11, 6, .int lemma_4)]) [2, 3, 4, 5, 6, 7] rfl rfl (M1 := []) [] rfl rfl (I1 := []) [] rfl rfl).more hb_4556
                          have hNn_455 : (jNk [0, 1, 2, 3, 4, 5, 6, 7, 8, 9, 10, 11, 12, 13, 14, 15, 16, 17, 175]) G0 G_455 := (hNn_439).tr hN_455
                          have hg_457 := hb_4552 _ _ hg_441
                          have hg_458 := hb_4552 _ _ hg_442
                          have hg_459 := hb_4552 _ _ hg_443
                          have hg_460 := hb_4552 _ _ hg_444
                          have hg_461 := hb_4552 _ _ hg_445
                          have hg_462 := hb_4552 _ _ hg_446
                          have hg_463 := hb_4552 _ _ hg_447
                          have hg_464 := hb_4552 _ _ hg_448
                          have hg_465 := hb_4552 _ _ hg_449
                          have hd_466 := jOw.tr (hh_452.iv 0 rfl) hh_452.2.2.2.2.1 hbO_455
                          have hh_467 := hh_455.addI (jOw.ie (dC := dC) (dI := dI) (G0 := G0) (k := 2) (r := r2) (H0 := s.heap) (F := [(2, 0), (2, 1)]) (C := RX0) (T := TX0) (N := 2) rfl (by decide) hh_455.2.2.2.2.1 (hd_466))
                          clear hh_455
                          try simp only at hr_456
                          obtain ⟨hr_456_0, hr_456_1, hr_456_2, hr_456_3, hr_456_4⟩ := hr_456
                          have hh_468 := hh_467.wk (zc1 := (m_qa_455 - n_pa) / 16) (zs1 := 2 * (m_qa_455 - n_pa)) (by omega) (by omega)
                          clear hh_467
                          try clear hsz_455 htt_455 hrc_455 hrs_455
                          try clear hb_4554 hb_4555
                          refine lv_aload_n hx hb dX7_proof_177 rfl (lv_at hl 2 rfl) ?_
                          refine va_ldcS hx hb hown rstr78 dX7_proof_178 ?_
                          have hsz_469 := hh_468.2.2.2.2.2.1
                          have htt_469 := hh_468.2.2.2.2.2.2.1
                          refine W.room (fun hrc_469 hrs_469 => ?_)
                          refine va_callv (A0 := jA base) (H0 := s.heap) (va_runV (As := [.ref str78]) (rest := []) ⟨hx, hb, hml, hown, hts⟩ (uX0_text l dC dI ca base B hB hAp hB2 hB196 G_455 H_455 r2 str78 2 qc_455 qa_455 m_qa_455 LC LS) (cwV 1 hts (jgV (jWr_31 _ (List.mem_of_getElem? (i := 16) rfl)) (jWr_25 _ (List.mem_of_getElem? (i := 22) rfl)) (jWr_25 _ (List.mem_of_getElem? (i := 23) rfl)) (jWr_1 _ (List.mem_of_getElem? (i := 14) rfl)) (jWr_26 _ (List.mem_of_getElem? (i := 0) rfl))) rfl rfl rfl (by decide +kernel) ⟨by rw [← hR]; exact Nat.le_of_ble_eq_true rfl, by rw [← hR]; exact Nat.le_of_ble_eq_true rfl⟩) ⟨fun a U g mk q => by obtain ⟨q0, q1, q2, qK, q10, q11, q12, q13, q14⟩ := q; exact ⟨q0, q1, q2, jG.calling g mk a qK, (q10.moved (Vm.Alike.refl U.vm)), q11, q12, q13, q14⟩, hh_468.recv (C := RX0) (T := TX0) (N := 2) hB2 rfl (by decide) hg_459 hK, fun U hU hW => ⟨rfl, hU, hh_468.2.1, hG.step hW hU hh_468.1, (hstr78.moved hW.alike).kept hh_468.1.2.1, hg_459, hgq_455_0, (hh_468.2.2.1.sub (L1 := [(r2, 2, 1, .int qc_455), (r2, 2, 0, .ref qa_455)]) [0, 1] rfl), (by omega), (by omega), ⟨(by first | omega | rfl | assumption | fail), (by first | omega | rfl | assumption | fail), (by first | omega | rfl | assumption | fail), (by first | omega | rfl | assumption | fail), (by first | assumption | fail | omega), (by first | omega | rfl | assumption | fail)⟩⟩⟩ rfl rfl hl.1 rfl (lv_room (Nat.le_of_ble_eq_true rfl)) dX7_proof_180 ⟨by rw [hRc]; omega, by rw [hRs]; omega⟩) hh_468.1 (fun q _ h => h) (fun q h => h) (fun u_469 t_469 H_469 locs_469 ht_469 hvm_469 hr_470 hb_469 hz_469 hk_469 hS_469 => ?_)
                          obtain ⟨qc_469, qa_469, m_qa_469, G_469⟩ := u_469
                          rw [ht_469] at hb_469
                          simp only at hb_469
                          obtain ⟨⟨hb_4691, hb_4692, hb_4693, hb_4694, hb_4695, hb_4696⟩, hgq_469_0, hN_469, hbO_469⟩ := hb_469
                          have hh_469 : jSt (dC, dI) B base G0 G_469 EX7_proof s.heap (((m_qa_455 - n_pa) / 16) + ((m_qa_469 - m_qa_455) / 16)) ((2 * (m_qa_455 - n_pa)) + (2 * (m_qa_469 - m_qa_455))) [(r2, 2, 1, .int qc_469), (r2, 2, 0, .ref qa_469), (el_57, 5, 1, .ref names_323), (el_57, 5, 0, .ref variables_309), (el_57, 5, 2, .ref hypotheses_60), (r1, 11, 8, .ref goals_42), (r0, 9, 0, .ref names_16), (r1, 11, 6, .int lemma_4)] [] [] H_469 locs_469 := (hh_468.callG hb_4691 hb_4692 hb_4693 hb_4694 hb_4695 hS_469 rfl (L1 := [(el_57, 5, 1, .ref names_323), (el_57, 5, 0, .ref variables_309), (el_57, 5, 2, .ref hypotheses_60), (r1, 11, 8, .ref goals_42), (r0, 9, 0, .ref names_16), (r1, 11, 6, .int lemma_4)]) [2, 3, 4, 5, 6, 7] rfl rfl (M1 := []) [] rfl rfl (I1 := []) [] rfl rfl).more hb_4696
                          have hNn_469 : (jNk [0, 1, 2, 3, 4, 5, 6, 7, 8, 9, 10, 11, 12, 13, 14, 15, 16, 17, 175]) G0 G_469 := (hNn_455).tr hN_469
                          have hg_471 := hb_4692 _ _ hg_457
                          have hg_472 := hb_4692 _ _ hg_458
                          have hg_473 := hb_4692 _ _ hg_459
                          have hg_474 := hb_4692 _ _ hg_460
                          have hg_475 := hb_4692 _ _ hg_461
                          have hg_476 := hb_4692 _ _ hg_462
                          have hg_477 := hb_4692 _ _ hg_463
                          have hg_478 := hb_4692 _ _ hg_464
                          have hg_479 := hb_4692 _ _ hg_465
                          have hd_480 := jOw.tr (hh_468.iv 0 rfl) hh_468.2.2.2.2.1 hbO_469
                          have hh_481 := hh_469.addI (jOw.ie (dC := dC) (dI := dI) (G0 := G0) (k := 2) (r := r2) (H0 := s.heap) (F := [(2, 0), (2, 1)]) (C := RX0) (T := TX0) (N := 2) rfl (by decide) hh_469.2.2.2.2.1 (hd_480))
                          clear hh_469
                          try simp only at hr_470
                          obtain ⟨hr_470_0, hr_470_1, hr_470_2, hr_470_3, hr_470_4⟩ := hr_470
                          have hh_482 := hh_481.wk (zc1 := (m_qa_469 - n_pa) / 16) (zs1 := 2 * (m_qa_469 - n_pa)) (by omega) (by omega)
                          clear hh_481
                          try clear hsz_469 htt_469 hrc_469 hrs_469
                          try clear hb_4694 hb_4695
                          obtain ⟨z_483, ez_483⟩ : ∃ y : Int32, y = v5_312 + 1 := ⟨_, rfl⟩
                          refine lv_iinc (v := z_483) (lv' := [(5, .int z_483), (0, .ref r0), (1, .ref r1), (2, .ref r2), (3, .int v3_35), (4, .ref el_57)]) hx hb dX7_proof_183 hl (k := 5) rfl (by rw [ez_483]; rfl) (by decide) rfl (fun ls hl => ?_)
                          have hz_483 : z_483.toInt = v5_312.toInt + 1 := by rw [ez_483]; exact jb_iadd2 (rfl) (by decide) (by omega)
                          refine lv_goto (tgt := 119) hx hb dX7_proof_186 (by decide) ?_
                          refine W.tight (c2 := ((m_qa_469 - n_pa) / 16)) (n2 := (2 * (m_qa_469 - n_pa))) hh_482.2.2.2.2.2.1 hh_482.2.2.2.2.2.2.1 ?_
                          exact L119 G_469 ((m_qa_469 - n_pa) / 16) (2 * (m_qa_469 - n_pa)) z_483 qc_469 qa_469 m_qa_469 _ _ (hh_482.sub (L1 := [(r2, 2, 1, .int qc_469), (r2, 2, 0, .ref qa_469), (el_57, 5, 0, .ref variables_309), (el_57, 5, 2, .ref hypotheses_60), (r1, 11, 8, .ref goals_42), (r0, 9, 0, .ref names_16), (r1, 11, 6, .int lemma_4)]) [0, 1, 3, 4, 5, 6, 7] rfl (M1 := []) [] rfl (I1 := [([(2, 0), (2, 1)], jOw (dC, dI) G0 2 r2 s.heap)]) [0] rfl) (hNn_469) (((((hle_312).tr hb_4252).tr hb_4392).tr hb_4552).tr hb_4692) hgq_469_0 (⟨(by first | omega | rfl | assumption | fail), (by first | omega | rfl | assumption | fail), (by first | omega | rfl | assumption | fail), (by first | omega | rfl | assumption | fail), (by first | assumption | fail | omega), (by first | omega | rfl | assumption | fail), (by first | omega | rfl | assumption | fail), (by first | omega | rfl | assumption | fail), (by first | omega | rfl | assumption | fail)⟩) (by omega) _ (lv_sub hl [1, 2, 3, 4, 5, 0] rfl)
                  refine W.tight (c2 := zcx_299) (n2 := zsx_299) hh_308.2.2.2.2.2.1 hh_308.2.2.2.2.2.2.1 ?_
                  exact L119 (10 - (0 : Int32).toInt : Int).toNat.succ Gx_299 zcx_299 zsx_299 0 wc_299 wr_299 m_wr_299 _ _ (hh_308.sub (L1 := [(r2, 2, 1, .int wc_299), (r2, 2, 0, .ref wr_299), (el_57, 5, 0, .ref variables_309), (el_57, 5, 2, .ref hypotheses_60), (r1, 11, 8, .ref goals_42), (r0, 9, 0, .ref names_16), (r1, 11, 6, .int lemma_4)]) [1, 2, 0, 3, 4, 5, 6] rfl (M1 := []) [] rfl (I1 := [([(2, 0), (2, 1)], jOw (dC, dI) G0 2 r2 s.heap)]) [0] rfl) (hN_299) (jLe.rf) hg_wr_299 (⟨(by first | omega | rfl | assumption | fail), (by first | omega | rfl | assumption | fail), (by first | omega | rfl | assumption | fail), (by first | omega | rfl | assumption | fail), (by first | assumption | fail | omega), (by first | omega | rfl | assumption | fail), (by first | omega | rfl | assumption | fail), (by first | omega | rfl | assumption | fail), (by first | omega | rfl | assumption | fail)⟩) (by omega) _ (lv_sub hl [1, 2, 3, 4, 5, 0] rfl)
                · skip
                  have c_311' : v5_299.toInt < z_310.toInt := jb_ge_n (rfl) (rfl) c_311
                  refine lv_aload_n hx hb dX7_proof_87 rfl (lv_at hl 0 rfl) ?_
                  refine j7_read hx hb hown hK (C := RX7) (T := TX7) (N := 5) rfl hly_9_0 hlk_21 (hh_308.at 5 rfl) dX7_proof_88 ?_
                  refine lv_aload hx hb dX7_proof_91 (lv_at hl 4 rfl) ?_
                  refine j7_read hx hb hown hK (C := RX3) (T := TX3) (N := 4) rfl hly_5_0 hlk_57 (hh_308.at 0 rfl) dX7_proof_93 ?_
                  refine lv_iload hx hb dX7_proof_96 (lv_at hl 5 rfl) ?_
                  refine j7_iald hx hb hK hh_308 hB101 1 rfl (by decide) hg_variables_309 (x := v5_299.toInt) (rfl) (by omega) dX7_proof_98 (fun z_484 (hz_484 : True) => ?_)
                  refine lv_iconst (v := 0) hx hb dX7_proof_99 (by decide) ?_
                  refine lv_aload_n hx hb dX7_proof_100 rfl (lv_at hl 2 rfl) ?_
                  have hsz_485 := hh_308.2.2.2.2.2.1
                  have htt_485 := hh_308.2.2.2.2.2.2.1
                  refine W.room (fun hrc_485 hrs_485 => ?_)
                  refine va_callv (A0 := jA base) (H0 := s.heap) (va_runV (As := [.int z_484, .int 0, .ref r2]) (rest := []) ⟨hx, hb, hml, hown, hts⟩ (uX6_write l dC dI ca base B hB hAp hB2 hB8 hB102 hB132 hB196 Gx_299 H_299 names_16 z_484 0 r2 wc_299 wr_299 m_wr_299 LC LS) (cwV 3 hts (jgV (jWr_31 _ (List.mem_of_getElem? (i := 17) rfl)) (jWr_31 _ (List.mem_of_getElem? (i := 18) rfl)) (jWr_31 _ (List.mem_of_getElem? (i := 19) rfl)) (jWr_4 _ (List.mem_of_getElem? (i := 10) rfl)) (jWr_31 _ (List.mem_of_getElem? (i := 20) rfl))) rfl rfl rfl (by decide +kernel) ⟨by rw [← hR]; exact Nat.le_of_ble_eq_true rfl, by rw [← hR]; exact Nat.le_of_ble_eq_true rfl⟩) ⟨fun a U g mk q => by obtain ⟨q0, q1, q2, qK, q10, q11, q12, q13, q14⟩ := q; exact ⟨q0, q1, q2, jG.calling g mk a qK, q10, q11, q12, q13, q14⟩, hh_308.recv (C := RX6) (T := TX6) (N := 4) hB8 rfl (by decide) hg_306 hK, fun U hU hW => ⟨rfl, hU, hh_308.2.1, hG.step hW hU hh_308.1, hg_302, hg_306, hg_wr_299, (hh_308.2.2.1.sub (L1 := [(r2, 2, 1, .int wc_299), (r2, 2, 0, .ref wr_299)]) [1, 2] rfl), (by omega), (by omega), ⟨(by first | omega | rfl | assumption | fail), (by first | omega | rfl | assumption | fail), (by first | omega | rfl | assumption | fail), (by first | omega | rfl | assumption | fail), (by first | assumption | fail | omega)⟩⟩⟩ rfl rfl hl.1 rfl (lv_room (Nat.le_of_ble_eq_true rfl)) dX7_proof_101 ⟨by rw [hRc]; omega, by rw [hRs]; omega⟩) hh_308.1 (fun q _ h => h) (fun q h => h) (fun u_485 t_485 H_485 locs_485 ht_485 hvm_485 hr_486 hb_485 hz_485 hk_485 hS_485 => ?_)
                  obtain ⟨qc_485, qa_485, m_qa_485, G_485⟩ := u_485
                  rw [ht_485] at hb_485
                  simp only at hb_485
                  obtain ⟨⟨hb_4851, hb_4852, hb_4853, hb_4854, hb_4855, hb_4856⟩, hgq_485_0, hN_485, hbO_485⟩ := hb_485
                  have hh_485 : jSt (dC, dI) B base G0 G_485 EX7_proof s.heap (zcx_299 + ((m_qa_485 - m_wr_299) / 16)) (zsx_299 + (2 * (m_qa_485 - m_wr_299))) [(r2, 2, 1, .int qc_485), (r2, 2, 0, .ref qa_485), (el_57, 5, 0, .ref variables_309), (el_57, 5, 2, .ref hypotheses_60), (r1, 11, 8, .ref goals_42), (r0, 9, 0, .ref names_16), (r1, 11, 6, .int lemma_4)] [] [] H_485 locs_485 := (hh_308.callG hb_4851 hb_4852 hb_4853 hb_4854 hb_4855 hS_485 rfl (L1 := [(el_57, 5, 0, .ref variables_309), (el_57, 5, 2, .ref hypotheses_60), (r1, 11, 8, .ref goals_42), (r0, 9, 0, .ref names_16), (r1, 11, 6, .int lemma_4)]) [0, 3, 4, 5, 6] rfl rfl (M1 := []) [] rfl rfl (I1 := []) [] rfl rfl).more hb_4856
                  have hNn_485 : (jNk [0, 1, 2, 3, 4, 5, 6, 7, 8, 9, 10, 11, 12, 13, 14, 15, 16, 17, 175]) G0 G_485 := (hN_299).tr hN_485
                  have hg_487 := hb_4852 _ _ hg_300
                  have hg_488 := hb_4852 _ _ hg_301
                  have hg_489 := hb_4852 _ _ hg_302
                  have hg_490 := hb_4852 _ _ hg_303
                  have hg_491 := hb_4852 _ _ hg_variables_309
                  have hg_492 := hb_4852 _ _ hg_304
                  have hg_493 := hb_4852 _ _ hg_305
                  have hg_494 := hb_4852 _ _ hg_306
                  have hd_495 := jOw.tr (hh_308.iv 0 rfl) hh_308.2.2.2.2.1 hbO_485
                  have hh_496 := hh_485.addI (jOw.ie (dC := dC) (dI := dI) (G0 := G0) (k := 2) (r := r2) (H0 := s.heap) (F := [(2, 0), (2, 1)]) (C := RX0) (T := TX0) (N := 2) rfl (by decide) hh_485.2.2.2.2.1 (hd_495))
                  clear hh_485
                  try simp only at hr_486
                  obtain ⟨hr_486_0, hr_486_1, hr_486_2, hr_486_3, hr_486_4⟩ := hr_486
                  have hh_497 := hh_496.wk (zc1 := (m_qa_485 - n_pa) / 16) (zs1 := 2 * (m_qa_485 - n_pa)) (by omega) (by omega)
                  clear hh_496
                  try clear hsz_485 htt_485 hrc_485 hrs_485
                  try clear hb_4854 hb_4855
                  refine lv_aload_n hx hb dX7_proof_104 rfl (lv_at hl 2 rfl) ?_
                  refine lv_bipush (v := 32) hx hb dX7_proof_105 (by decide) ?_
                  have hsz_498 := hh_497.2.2.2.2.2.1
                  have htt_498 := hh_497.2.2.2.2.2.2.1
                  refine W.room (fun hrc_498 hrs_498 => ?_)
                  refine va_callv (A0 := jA base) (H0 := s.heap) (va_runV (As := [.int 32]) (rest := []) ⟨hx, hb, hml, hown, hts⟩ (uX0_put l dC dI ca base B hB hAp hB2 hB196 G_485 H_485 r2 32 qc_485 qa_485 m_qa_485 LC LS) (cwV 1 hts (jgV (jWr_31 _ (List.mem_of_getElem? (i := 2) rfl)) (jWr_16 _ (List.mem_of_getElem? (i := 0) rfl)) (jWr_16 _ (List.mem_of_getElem? (i := 1) rfl)) (jWr_1 _ (List.mem_of_getElem? (i := 14) rfl)) (jWr_16 _ (List.mem_of_getElem? (i := 2) rfl))) rfl rfl rfl (by decide +kernel) ⟨by rw [← hR]; exact Nat.le_of_ble_eq_true rfl, by rw [← hR]; exact Nat.le_of_ble_eq_true rfl⟩) ⟨fun a U g mk q => by obtain ⟨q0, q1, q2, qK, q10, q11, q12, q13⟩ := q; exact ⟨q0, q1, q2, jG.calling g mk a qK, q10, q11, q12, q13⟩, hh_497.recv (C := RX0) (T := TX0) (N := 2) hB2 rfl (by decide) hg_489 hK, fun U hU hW => ⟨rfl, hU, hh_497.2.1, hG.step hW hU hh_497.1, hg_489, hgq_485_0, (hh_497.2.2.1.sub (L1 := [(r2, 2, 1, .int qc_485), (r2, 2, 0, .ref qa_485)]) [0, 1] rfl), (by omega), (by omega), ⟨(by first | omega | rfl | assumption | fail), (by first | omega | rfl | assumption | fail), (by first | omega | rfl | assumption | fail), (by first | omega | rfl | assumption | fail), (by first | assumption | fail | omega)⟩⟩⟩ rfl rfl hl.1 rfl (lv_room (Nat.le_of_ble_eq_true rfl)) dX7_proof_107 ⟨by rw [hRc]; omega, by rw [hRs]; omega⟩) hh_497.1 (fun q _ h => h) (fun q h => h) (fun u_498 t_498 H_498 locs_498 ht_498 hvm_498 hr_499 hb_498 hz_498 hk_498 hS_498 => ?_)
                  obtain ⟨qc_498, qa_498, m_qa_498, G_498⟩ := u_498
                  rw [ht_498] at hb_498
                  simp only at hb_498
                  obtain ⟨⟨hb_4981, hb_4982, hb_4983, hb_4984, hb_4985, hb_4986⟩, hgq_498_0, hN_498, hbO_498⟩ := hb_498
                  have hh_498 : jSt (dC, dI) B base G0 G_498 EX7_proof s.heap (((m_qa_485 - n_pa) / 16) + ((m_qa_498 - m_qa_485) / 16)) ((2 * (m_qa_485 - n_pa)) + (2 * (m_qa_498 - m_qa_485))) [(r2, 2, 1, .int qc_498), (r2, 2, 0, .ref qa_498), (el_57, 5, 0, .ref variables_309), (el_57, 5, 2, .ref hypotheses_60), (r1, 11, 8, .ref goals_42), (r0, 9, 0, .ref names_16), (r1, 11, 6, .int lemma_4)] [] [] H_498 locs_498 := (hh_497.callG hb_4981 hb_4982 hb_4983 hb_4984 hb_4985 hS_498 rfl (L1 := [(el_57, 5, 0, .ref variables_309), (el_57, 5, 2, .ref hypotheses_60), (r1, 11, 8, .ref goals_42), (r0, 9, 0, .ref names_16), (r1, 11, 6, .int lemma_4)]) [2, 3, 4, 5, 6] rfl rfl (M1 := []) [] rfl rfl (I1 := []) [] rfl rfl).more hb_4986
                  have hNn_498 : (jNk [0, 1, 2, 3, 4, 5, 6, 7, 8, 9, 10, 11, 12, 13, 14, 15, 16, 17, 175]) G0 G_498 := (hNn_485).tr hN_498
                  have hg_500 := hb_4982 _ _ hg_487
                  have hg_501 := hb_4982 _ _ hg_488
                  have hg_502 := hb_4982 _ _ hg_489
                  have hg_503 := hb_4982 _ _ hg_490
                  have hg_504 := hb_4982 _ _ hg_491
                  have hg_505 := hb_4982 _ _ hg_492
                  have hg_506 := hb_4982 _ _ hg_493
                  have hg_507 := hb_4982 _ _ hg_494
                  have hd_508 := jOw.tr (hh_497.iv 0 rfl) hh_497.2.2.2.2.1 hbO_498
                  have hh_509 := hh_498.addI (jOw.ie (dC := dC) (dI := dI) (G0 := G0) (k := 2) (r := r2) (H0 := s.heap) (F := [(2, 0), (2, 1)]) (C := RX0) (T := TX0) (N := 2) rfl (by decide) hh_498.2.2.2.2.1 (hd_508))
                  clear hh_498
                  try simp only at hr_499
                  obtain ⟨hr_499_0, hr_499_1, hr_499_2, hr_499_3, hr_499_4⟩ := hr_499
                  have hh_510 := hh_509.wk (zc1 := (m_qa_498 - n_pa) / 16) (zs1 := 2 * (m_qa_498 - n_pa)) (by omega) (by omega)
                  clear hh_509
                  try clear hsz_498 htt_498 hrc_498 hrs_498
                  try clear hb_4984 hb_4985
                  obtain ⟨z_511, ez_511⟩ : ∃ y : Int32, y = v5_299 + 1 := ⟨_, rfl⟩
                  refine lv_iinc (v := z_511) (lv' := [(5, .int z_511), (0, .ref r0), (1, .ref r1), (2, .ref r2), (3, .int v3_35), (4, .ref el_57)]) hx hb dX7_proof_110 hl (k := 5) rfl (by rw [ez_511]; rfl) (by decide) rfl (fun ls hl => ?_)
                  have hz_511 : z_511.toInt = v5_299.toInt + 1 := by rw [ez_511]; exact jb_iadd2 (rfl) (by decide) (by omega)
                  refine lv_goto (tgt := 76) hx hb dX7_proof_113 (by decide) ?_
                  refine W.tight (c2 := ((m_qa_498 - n_pa) / 16)) (n2 := (2 * (m_qa_498 - n_pa))) hh_510.2.2.2.2.2.1 hh_510.2.2.2.2.2.2.1 ?_
                  exact L76 G_498 ((m_qa_498 - n_pa) / 16) (2 * (m_qa_498 - n_pa)) z_511 qc_498 qa_498 m_qa_498 _ _ (hh_510.sub (L1 := [(r2, 2, 1, .int qc_498), (r2, 2, 0, .ref qa_498), (el_57, 5, 2, .ref hypotheses_60), (r1, 11, 8, .ref goals_42), (r0, 9, 0, .ref names_16), (r1, 11, 6, .int lemma_4)]) [0, 1, 3, 4, 5, 6] rfl (M1 := []) [] rfl (I1 := [([(2, 0), (2, 1)], jOw (dC, dI) G0 2 r2 s.heap)]) [0] rfl) (hNn_498) (((hle_299).tr hb_4852).tr hb_4982) hgq_498_0 (⟨(by first | omega | rfl | assumption | fail), (by first | omega | rfl | assumption | fail), (by first | omega | rfl | assumption | fail), (by first | omega | rfl | assumption | fail), (by first | assumption | fail | omega), (by first | omega | rfl | assumption | fail), (by first | omega | rfl | assumption | fail), (by first | omega | rfl | assumption | fail), (by first | omega | rfl | assumption | fail)⟩) (by omega) _ (lv_sub hl [1, 2, 3, 4, 5, 0] rfl)
            refine W.tight (c2 := ((m_qa_287 - n_pa) / 16)) (n2 := (2 * (m_qa_287 - n_pa))) hh_298.2.2.2.2.2.1 hh_298.2.2.2.2.2.2.1 ?_
            exact L76 (8 - (0 : Int32).toInt : Int).toNat.succ G_287 ((m_qa_287 - n_pa) / 16) (2 * (m_qa_287 - n_pa)) 0 qc_287 qa_287 m_qa_287 _ _ hh_298 (hNn_287) (jLe.rf) hgq_287_0 (⟨(by first | omega | rfl | assumption | fail), (by first | omega | rfl | assumption | fail), (by first | omega | rfl | assumption | fail), (by first | omega | rfl | assumption | fail), (by first | assumption | fail | omega), (by first | omega | rfl | assumption | fail), (by first | omega | rfl | assumption | fail), (by first | omega | rfl | assumption | fail), (by first | omega | rfl | assumption | fail)⟩) (by omega) _ (lv_sub hl [2, 3, 4, 5, 1, 0] rfl)
    refine W.tight (c2 := ((m_qa_26 - n_pa) / 16)) (n2 := (2 * (m_qa_26 - n_pa))) hh_34.2.2.2.2.2.1 hh_34.2.2.2.2.2.2.1 ?_
    exact L41 (7 - (0 : Int32).toInt : Int).toNat.succ G_26 ((m_qa_26 - n_pa) / 16) (2 * (m_qa_26 - n_pa)) 0 qc_26 qa_26 m_qa_26 _ _ hh_34 (hNn_26) (jLe.rf) hgq_26_0 (⟨(by first | omega | rfl | assumption | fail), (by first | omega | rfl | assumption | fail), (by first | omega | rfl | assumption | fail), (by first | omega | rfl | assumption | fail), (by first | assumption | fail | omega), (by first | omega | rfl | assumption | fail), (by first | omega | rfl | assumption | fail), (by first | omega | rfl | assumption | fail), (by first | omega | rfl | assumption | fail)⟩) (by omega) _ (lv_sub hl [1, 2, 3, 0] rfl)
  · skip
    have c_5' : lemma_4.toInt < 0 := jb_ge_n (rfl) ((by decide)) c_5
    refine lv_aload_n hx hb dX7_proof_7 rfl (lv_at hl 2 rfl) ?_
    refine va_ldcS hx hb hown rstr31 dX7_proof_8 ?_
    have hsz_512 := hh_3.2.2.2.2.2.1
    have htt_512 := hh_3.2.2.2.2.2.2.1
    refine W.room (fun hrc_512 hrs_512 => ?_)
    refine va_callv (A0 := jA base) (H0 := s.heap) (va_runV (As := [.ref str31]) (rest := []) ⟨hx, hb, hml, hown, hts⟩ (uX0_text l dC dI ca base B hB hAp hB2 hB196 G0 s.heap r2 str31 4 pc pa n_pa LC LS) (cwV 1 hts (jgV (jWr_31 _ (List.mem_of_getElem? (i := 16) rfl)) (jWr_25 _ (List.mem_of_getElem? (i := 22) rfl)) (jWr_25 _ (List.mem_of_getElem? (i := 23) rfl)) (jWr_1 _ (List.mem_of_getElem? (i := 14) rfl)) (jWr_26 _ (List.mem_of_getElem? (i := 0) rfl))) rfl rfl rfl (by decide +kernel) ⟨by rw [← hR]; exact Nat.le_of_ble_eq_true rfl, by rw [← hR]; exact Nat.le_of_ble_eq_true rfl⟩) ⟨fun a U g mk q => by obtain ⟨q0, q1, q2, qK, q10, q11, q12, q13, q14⟩ := q; exact ⟨q0, q1, q2, jG.calling g mk a qK, (q10.moved (Vm.Alike.refl U.vm)), q11, q12, q13, q14⟩, hh_3.recv (C := RX0) (T := TX0) (N := 2) hB2 rfl (by decide) hg_r2 hK, fun U hU hW => ⟨rfl, hU, hh_3.2.1, hG.step hW hU hh_3.1, (hstr31.moved hW.alike).kept hh_3.1.2.1, hg_r2, hg_pa, (hh_3.2.2.1.sub (L1 := [(r2, 2, 1, .int pc), (r2, 2, 0, .ref pa)]) [1, 2] rfl), (by omega), (by omega), ⟨(by first | omega | rfl | assumption | fail), (by first | omega | rfl | assumption | fail), (by first | omega | rfl | assumption | fail), (by first | omega | rfl | assumption | fail), (by first | assumption | fail | omega), (by first | omega | rfl | assumption | fail)⟩⟩⟩ rfl rfl hl.1 rfl (lv_room (Nat.le_of_ble_eq_true rfl)) dX7_proof_10 ⟨by rw [hRc]; omega, by rw [hRs]; omega⟩) hh_3.1 (fun q _ h => h) (fun q h => h) (fun u_512 t_512 H_512 locs_512 ht_512 hvm_512 hr_513 hb_512 hz_512 hk_512 hS_512 => ?_)
    obtain ⟨qc_512, qa_512, m_qa_512, G_512⟩ := u_512
    rw [ht_512] at hb_512
    simp only at hb_512
    obtain ⟨⟨hb_5121, hb_5122, hb_5123, hb_5124, hb_5125, hb_5126⟩, hgq_512_0, hN_512, hbO_512⟩ := hb_512
    have hh_512 : jSt (dC, dI) B base G0 G_512 EX7_proof s.heap (0 + ((m_qa_512 - n_pa) / 16)) (0 + (2 * (m_qa_512 - n_pa))) [(r2, 2, 1, .int qc_512), (r2, 2, 0, .ref qa_512), (r1, 11, 6, .int lemma_4)] [] [] H_512 locs_512 := (hh_3.callG hb_5121 hb_5122 hb_5123 hb_5124 hb_5125 hS_512 rfl (L1 := [(r1, 11, 6, .int lemma_4)]) [0] rfl rfl (M1 := []) [] rfl rfl (I1 := []) [] rfl rfl).more hb_5126
    have hNn_512 : (jNk [0, 1, 2, 3, 4, 5, 6, 7, 8, 9, 10, 11, 12, 13, 14, 15, 16, 17, 175]) G0 G_512 := (jNk.rf).tr hN_512
    have hg_514 := hb_5122 _ _ hg_r0
    have hg_515 := hb_5122 _ _ hg_r1
    have hg_516 := hb_5122 _ _ hg_r2
    have hd_517 := jOw.tr (hh_3.iv 0 rfl) hh_3.2.2.2.2.1 hbO_512
    have hh_518 := hh_512.addI (jOw.ie (dC := dC) (dI := dI) (G0 := G0) (k := 2) (r := r2) (H0 := s.heap) (F := [(2, 0), (2, 1)]) (C := RX0) (T := TX0) (N := 2) rfl (by decide) hh_512.2.2.2.2.1 (hd_517))
    clear hh_512
    try simp only at hr_513
    obtain ⟨hr_513_0, hr_513_1, hr_513_2, hr_513_3, hr_513_4⟩ := hr_513
    have hh_519 := hh_518.wk (zc1 := (m_qa_512 - n_pa) / 16) (zs1 := 2 * (m_qa_512 - n_pa)) (by omega) (by omega)
    clear hh_518
    try clear hsz_512 htt_512 hrc_512 hrs_512
    try clear hb_5124 hb_5125
    have hsz_520 := hh_519.2.2.2.2.2.1
    have htt_520 := hh_519.2.2.2.2.2.2.1
    refine W.room (fun hrc_520 hrs_520 => ?_)
    refine W.widen (k := LC - s.heap.size) (n := LS - jTot s.heap) (by omega) (by omega) ?_
    rw [hQ]
    exact W.vret hx hb hr (fun t ht hW => ⟨⟨(qc_512, qa_512, m_qa_512, G_512), rfl, by (try dsimp only); exact ⟨(by first | omega | rfl | assumption | fail), (by first | omega | rfl | assumption | fail), (by first | omega | rfl | assumption | fail), (by first | omega | rfl | assumption | fail), (by first | assumption | fail | omega)⟩, ⟨hh_519.ra (by first | omega | (simp only; omega)) (by first | omega | (simp only; omega)) (M1 := [(r2, 2, 1, .int qc_512), (r2, 2, 0, .ref qa_512)]) [0, 1] rfl ht, hgq_512_0, hNn_512, by rw [ht]; exact hh_519.iv 0 rfl⟩⟩, by rw [ht]; try exact hh_519.1.1, fun q h9 hq => by rw [ht]; try exact hh_519.1.2.1 q h9 hq⟩) hh_519.1.2.2 dX7_proof_13
end
