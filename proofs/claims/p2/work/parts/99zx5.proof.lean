theorem dX7_proof_0 : decode cX7_proof 0 = .ok (.aload_n 1, 1) := by decide +kernel
theorem dX7_proof_1 : decode cX7_proof 1 = .ok (.getfield 25, 3) := by decide +kernel
theorem dX7_proof_4 : decode cX7_proof 4 = .ok (.ifCond .ge 10, 3) := by decide +kernel
theorem dX7_proof_7 : decode cX7_proof 7 = .ok (.aload_n 2, 1) := by decide +kernel
theorem dX7_proof_8 : decode cX7_proof 8 = .ok (.ldc 31, 2) := by decide +kernel
theorem dX7_proof_10 : decode cX7_proof 10 = .ok (.invokevirtual 33, 3) := by decide +kernel
theorem dX7_proof_13 : decode cX7_proof 13 = .ok (.return_, 1) := by decide +kernel
theorem dX7_proof_14 : decode cX7_proof 14 = .ok (.aload_n 2, 1) := by decide +kernel
theorem dX7_proof_15 : decode cX7_proof 15 = .ok (.ldc 39, 2) := by decide +kernel
theorem dX7_proof_17 : decode cX7_proof 17 = .ok (.invokevirtual 33, 3) := by decide +kernel
theorem dX7_proof_20 : decode cX7_proof 20 = .ok (.aload_n 0, 1) := by decide +kernel
theorem dX7_proof_21 : decode cX7_proof 21 = .ok (.getfield 21, 3) := by decide +kernel
theorem dX7_proof_24 : decode cX7_proof 24 = .ok (.aload_n 1, 1) := by decide +kernel
theorem dX7_proof_25 : decode cX7_proof 25 = .ok (.getfield 25, 3) := by decide +kernel
theorem dX7_proof_28 : decode cX7_proof 28 = .ok (.iconst 0, 1) := by decide +kernel
theorem dX7_proof_29 : decode cX7_proof 29 = .ok (.aload_n 2, 1) := by decide +kernel
theorem dX7_proof_30 : decode cX7_proof 30 = .ok (.invokevirtual 41, 3) := by decide +kernel
theorem dX7_proof_33 : decode cX7_proof 33 = .ok (.aload_n 2, 1) := by decide +kernel
theorem dX7_proof_34 : decode cX7_proof 34 = .ok (.ldc 47, 2) := by decide +kernel
theorem dX7_proof_36 : decode cX7_proof 36 = .ok (.invokevirtual 33, 3) := by decide +kernel
theorem dX7_proof_39 : decode cX7_proof 39 = .ok (.iconst 0, 1) := by decide +kernel
theorem dX7_proof_40 : decode cX7_proof 40 = .ok (.istore_n 3, 1) := by decide +kernel
theorem dX7_proof_41 : decode cX7_proof 41 = .ok (.iload_n 3, 1) := by decide +kernel
theorem dX7_proof_42 : decode cX7_proof 42 = .ok (.aload_n 1, 1) := by decide +kernel
theorem dX7_proof_43 : decode cX7_proof 43 = .ok (.getfield 49, 3) := by decide +kernel
theorem dX7_proof_46 : decode cX7_proof 46 = .ok (.arraylength, 1) := by decide +kernel
theorem dX7_proof_47 : decode cX7_proof 47 = .ok (.if_icmp .ge 170, 3) := by decide +kernel
theorem dX7_proof_50 : decode cX7_proof 50 = .ok (.aload_n 1, 1) := by decide +kernel
theorem dX7_proof_51 : decode cX7_proof 51 = .ok (.getfield 49, 3) := by decide +kernel
theorem dX7_proof_54 : decode cX7_proof 54 = .ok (.iload_n 3, 1) := by decide +kernel
theorem dX7_proof_55 : decode cX7_proof 55 = .ok (.aaload, 1) := by decide +kernel
theorem dX7_proof_56 : decode cX7_proof 56 = .ok (.astore 4, 2) := by decide +kernel
theorem dX7_proof_58 : decode cX7_proof 58 = .ok (.aload_n 2, 1) := by decide +kernel
theorem dX7_proof_59 : decode cX7_proof 59 = .ok (.iload_n 3, 1) := by decide +kernel
theorem dX7_proof_60 : decode cX7_proof 60 = .ok (.ifCond .le 8, 3) := by decide +kernel
theorem dX7_proof_63 : decode cX7_proof 63 = .ok (.ldc 53, 2) := by decide +kernel
theorem dX7_proof_65 : decode cX7_proof 65 = .ok (.goto 5, 3) := by decide +kernel
theorem dX7_proof_68 : decode cX7_proof 68 = .ok (.ldc 55, 2) := by decide +kernel
theorem dX7_proof_70 : decode cX7_proof 70 = .ok (.invokevirtual 33, 3) := by decide +kernel
theorem dX7_proof_73 : decode cX7_proof 73 = .ok (.iconst 0, 1) := by decide +kernel
theorem dX7_proof_74 : decode cX7_proof 74 = .ok (.istore 5, 2) := by decide +kernel
theorem dX7_proof_76 : decode cX7_proof 76 = .ok (.iload 5, 2) := by decide +kernel
theorem dX7_proof_78 : decode cX7_proof 78 = .ok (.aload 4, 2) := by decide +kernel
theorem dX7_proof_80 : decode cX7_proof 80 = .ok (.getfield 57, 3) := by decide +kernel
theorem dX7_proof_83 : decode cX7_proof 83 = .ok (.arraylength, 1) := by decide +kernel
theorem dX7_proof_84 : decode cX7_proof 84 = .ok (.if_icmp .ge 32, 3) := by decide +kernel
theorem dX7_proof_87 : decode cX7_proof 87 = .ok (.aload_n 0, 1) := by decide +kernel
theorem dX7_proof_88 : decode cX7_proof 88 = .ok (.getfield 21, 3) := by decide +kernel
theorem dX7_proof_91 : decode cX7_proof 91 = .ok (.aload 4, 2) := by decide +kernel
theorem dX7_proof_93 : decode cX7_proof 93 = .ok (.getfield 57, 3) := by decide +kernel
theorem dX7_proof_96 : decode cX7_proof 96 = .ok (.iload 5, 2) := by decide +kernel
theorem dX7_proof_98 : decode cX7_proof 98 = .ok (.iaload, 1) := by decide +kernel
theorem dX7_proof_99 : decode cX7_proof 99 = .ok (.iconst 0, 1) := by decide +kernel
theorem dX7_proof_100 : decode cX7_proof 100 = .ok (.aload_n 2, 1) := by decide +kernel
theorem dX7_proof_101 : decode cX7_proof 101 = .ok (.invokevirtual 41, 3) := by decide +kernel
theorem dX7_proof_104 : decode cX7_proof 104 = .ok (.aload_n 2, 1) := by decide +kernel
theorem dX7_proof_105 : decode cX7_proof 105 = .ok (.bipush 32, 2) := by decide +kernel
theorem dX7_proof_107 : decode cX7_proof 107 = .ok (.invokevirtual 62, 3) := by decide +kernel
theorem dX7_proof_110 : decode cX7_proof 110 = .ok (.iinc 5 1, 3) := by decide +kernel
theorem dX7_proof_113 : decode cX7_proof 113 = .ok (.goto (-37), 3) := by decide +kernel
theorem dX7_proof_116 : decode cX7_proof 116 = .ok (.iconst 0, 1) := by decide +kernel
theorem dX7_proof_117 : decode cX7_proof 117 = .ok (.istore 5, 2) := by decide +kernel
theorem dX7_proof_119 : decode cX7_proof 119 = .ok (.iload 5, 2) := by decide +kernel
theorem dX7_proof_121 : decode cX7_proof 121 = .ok (.aload 4, 2) := by decide +kernel
theorem dX7_proof_123 : decode cX7_proof 123 = .ok (.getfield 66, 3) := by decide +kernel
theorem dX7_proof_126 : decode cX7_proof 126 = .ok (.arraylength, 1) := by decide +kernel
theorem dX7_proof_127 : decode cX7_proof 127 = .ok (.if_icmp .ge 62, 3) := by decide +kernel
theorem dX7_proof_130 : decode cX7_proof 130 = .ok (.iload 5, 2) := by decide +kernel
theorem dX7_proof_132 : decode cX7_proof 132 = .ok (.aload 4, 2) := by decide +kernel
theorem dX7_proof_134 : decode cX7_proof 134 = .ok (.getfield 68, 3) := by decide +kernel
theorem dX7_proof_137 : decode cX7_proof 137 = .ok (.arraylength, 1) := by decide +kernel
theorem dX7_proof_138 : decode cX7_proof 138 = .ok (.if_icmp .ge 51, 3) := by decide +kernel
theorem dX7_proof_141 : decode cX7_proof 141 = .ok (.aload_n 0, 1) := by decide +kernel
theorem dX7_proof_142 : decode cX7_proof 142 = .ok (.getfield 21, 3) := by decide +kernel
theorem dX7_proof_145 : decode cX7_proof 145 = .ok (.aload 4, 2) := by decide +kernel
theorem dX7_proof_147 : decode cX7_proof 147 = .ok (.getfield 66, 3) := by decide +kernel
theorem dX7_proof_150 : decode cX7_proof 150 = .ok (.iload 5, 2) := by decide +kernel
theorem dX7_proof_152 : decode cX7_proof 152 = .ok (.iaload, 1) := by decide +kernel
theorem dX7_proof_153 : decode cX7_proof 153 = .ok (.iconst 0, 1) := by decide +kernel
theorem dX7_proof_154 : decode cX7_proof 154 = .ok (.aload_n 2, 1) := by decide +kernel
theorem dX7_proof_155 : decode cX7_proof 155 = .ok (.invokevirtual 41, 3) := by decide +kernel
theorem dX7_proof_158 : decode cX7_proof 158 = .ok (.aload_n 2, 1) := by decide +kernel
theorem dX7_proof_159 : decode cX7_proof 159 = .ok (.ldc 72, 2) := by decide +kernel
theorem dX7_proof_161 : decode cX7_proof 161 = .ok (.invokevirtual 33, 3) := by decide +kernel
theorem dX7_proof_164 : decode cX7_proof 164 = .ok (.aload_n 0, 1) := by decide +kernel
theorem dX7_proof_165 : decode cX7_proof 165 = .ok (.aload 4, 2) := by decide +kernel
theorem dX7_proof_167 : decode cX7_proof 167 = .ok (.getfield 68, 3) := by decide +kernel
theorem dX7_proof_170 : decode cX7_proof 170 = .ok (.iload 5, 2) := by decide +kernel
theorem dX7_proof_172 : decode cX7_proof 172 = .ok (.aaload, 1) := by decide +kernel
theorem dX7_proof_173 : decode cX7_proof 173 = .ok (.aload_n 2, 1) := by decide +kernel
theorem dX7_proof_174 : decode cX7_proof 174 = .ok (.invokevirtual 74, 3) := by decide +kernel
theorem dX7_proof_177 : decode cX7_proof 177 = .ok (.aload_n 2, 1) := by decide +kernel
theorem dX7_proof_178 : decode cX7_proof 178 = .ok (.ldc 78, 2) := by decide +kernel
theorem dX7_proof_180 : decode cX7_proof 180 = .ok (.invokevirtual 33, 3) := by decide +kernel
theorem dX7_proof_183 : decode cX7_proof 183 = .ok (.iinc 5 1, 3) := by decide +kernel
theorem dX7_proof_186 : decode cX7_proof 186 = .ok (.goto (-67), 3) := by decide +kernel
theorem dX7_proof_189 : decode cX7_proof 189 = .ok (.aload_n 2, 1) := by decide +kernel
theorem dX7_proof_190 : decode cX7_proof 190 = .ok (.ldc 80, 2) := by decide +kernel
theorem dX7_proof_192 : decode cX7_proof 192 = .ok (.invokevirtual 33, 3) := by decide +kernel
theorem dX7_proof_195 : decode cX7_proof 195 = .ok (.aload_n 0, 1) := by decide +kernel
theorem dX7_proof_196 : decode cX7_proof 196 = .ok (.aload 4, 2) := by decide +kernel
theorem dX7_proof_198 : decode cX7_proof 198 = .ok (.getfield 82, 3) := by decide +kernel
theorem dX7_proof_201 : decode cX7_proof 201 = .ok (.aload_n 2, 1) := by decide +kernel
theorem dX7_proof_202 : decode cX7_proof 202 = .ok (.invokevirtual 74, 3) := by decide +kernel
theorem dX7_proof_205 : decode cX7_proof 205 = .ok (.aload_n 2, 1) := by decide +kernel
theorem dX7_proof_206 : decode cX7_proof 206 = .ok (.bipush 34, 2) := by decide +kernel
theorem dX7_proof_208 : decode cX7_proof 208 = .ok (.invokevirtual 62, 3) := by decide +kernel
theorem dX7_proof_211 : decode cX7_proof 211 = .ok (.iinc 3 1, 3) := by decide +kernel
theorem dX7_proof_214 : decode cX7_proof 214 = .ok (.goto (-173), 3) := by decide +kernel
theorem dX7_proof_217 : decode cX7_proof 217 = .ok (.aload_n 2, 1) := by decide +kernel
theorem dX7_proof_218 : decode cX7_proof 218 = .ok (.ldc 84, 2) := by decide +kernel
theorem dX7_proof_220 : decode cX7_proof 220 = .ok (.invokevirtual 33, 3) := by decide +kernel
theorem dX7_proof_223 : decode cX7_proof 223 = .ok (.return_, 1) := by decide +kernel
theorem dX7_statement_0 : decode cX7_statement 0 = .ok (.aload_n 1, 1) := by decide +kernel
theorem dX7_statement_1 : decode cX7_statement 1 = .ok (.getfield 86, 3) := by decide +kernel
theorem dX7_statement_4 : decode cX7_statement 4 = .ok (.iload_n 2, 1) := by decide +kernel
theorem dX7_statement_5 : decode cX7_statement 5 = .ok (.invokestatic 89, 3) := by decide +kernel
theorem dX7_statement_8 : decode cX7_statement 8 = .ok (.istore 4, 2) := by decide +kernel
theorem dX7_statement_10 : decode cX7_statement 10 = .ok (.aload_n 1, 1) := by decide +kernel
theorem dX7_statement_11 : decode cX7_statement 11 = .ok (.iload_n 2, 1) := by decide +kernel
theorem dX7_statement_12 : decode cX7_statement 12 = .ok (.invokevirtual 93, 3) := by decide +kernel
theorem dX7_statement_15 : decode cX7_statement 15 = .ok (.istore 5, 2) := by decide +kernel
theorem dX7_statement_17 : decode cX7_statement 17 = .ok (.iload 4, 2) := by decide +kernel
theorem dX7_statement_19 : decode cX7_statement 19 = .ok (.ifCond .lt 30, 3) := by decide +kernel
theorem dX7_statement_22 : decode cX7_statement 22 = .ok (.aload_n 3, 1) := by decide +kernel
theorem dX7_statement_23 : decode cX7_statement 23 = .ok (.bipush 34, 2) := by decide +kernel
theorem dX7_statement_25 : decode cX7_statement 25 = .ok (.invokevirtual 62, 3) := by decide +kernel
theorem dX7_statement_28 : decode cX7_statement 28 = .ok (.aload_n 0, 1) := by decide +kernel
theorem dX7_statement_29 : decode cX7_statement 29 = .ok (.aload_n 1, 1) := by decide +kernel
theorem dX7_statement_30 : decode cX7_statement 30 = .ok (.getfield 97, 3) := by decide +kernel
theorem dX7_statement_33 : decode cX7_statement 33 = .ok (.iload 4, 2) := by decide +kernel
theorem dX7_statement_35 : decode cX7_statement 35 = .ok (.aaload, 1) := by decide +kernel
theorem dX7_statement_36 : decode cX7_statement 36 = .ok (.aload_n 3, 1) := by decide +kernel
theorem dX7_statement_37 : decode cX7_statement 37 = .ok (.invokevirtual 74, 3) := by decide +kernel
theorem dX7_statement_40 : decode cX7_statement 40 = .ok (.aload_n 3, 1) := by decide +kernel
theorem dX7_statement_41 : decode cX7_statement 41 = .ok (.bipush 34, 2) := by decide +kernel
theorem dX7_statement_43 : decode cX7_statement 43 = .ok (.invokevirtual 62, 3) := by decide +kernel
theorem dX7_statement_46 : decode cX7_statement 46 = .ok (.goto 29, 3) := by decide +kernel
theorem dX7_statement_49 : decode cX7_statement 49 = .ok (.iload 5, 2) := by decide +kernel
theorem dX7_statement_51 : decode cX7_statement 51 = .ok (.ifCond .lt 18, 3) := by decide +kernel
theorem dX7_statement_54 : decode cX7_statement 54 = .ok (.aload_n 3, 1) := by decide +kernel
theorem dX7_statement_55 : decode cX7_statement 55 = .ok (.iload 5, 2) := by decide +kernel
theorem dX7_statement_57 : decode cX7_statement 57 = .ok (.iconst 4, 1) := by decide +kernel
theorem dX7_statement_58 : decode cX7_statement 58 = .ok (.ishr, 1) := by decide +kernel
theorem dX7_statement_59 : decode cX7_statement 59 = .ok (.sipush 2047, 3) := by decide +kernel
theorem dX7_statement_62 : decode cX7_statement 62 = .ok (.iand, 1) := by decide +kernel
theorem dX7_statement_63 : decode cX7_statement 63 = .ok (.invokevirtual 100, 3) := by decide +kernel
theorem dX7_statement_66 : decode cX7_statement 66 = .ok (.goto 9, 3) := by decide +kernel
theorem dX7_statement_69 : decode cX7_statement 69 = .ok (.aload_n 3, 1) := by decide +kernel
theorem dX7_statement_70 : decode cX7_statement 70 = .ok (.ldc 31, 2) := by decide +kernel
theorem dX7_statement_72 : decode cX7_statement 72 = .ok (.invokevirtual 33, 3) := by decide +kernel
theorem dX7_statement_75 : decode cX7_statement 75 = .ok (.return_, 1) := by decide +kernel
def EX7_statement : List (Nat × Nat) := [(2, 0), (2, 1), (9, 2), (196, 0), (286, 0), (287, 0), (288, 0)]
def EX7_proof : List (Nat × Nat) := [(2, 0), (2, 1), (9, 2), (196, 0), (286, 0), (287, 0), (288, 0)]
set_option maxHeartbeats 4000000 in
set_option maxRecDepth 20000 in
theorem uX7_statement (l : Launch) (dC : Nat → ClassId) (dI : Nat → Nat → Nat) (ca : Nat → ClassId) (base : Nat) (B : jF) (hB : jBok B) (hAp : jAp (dC, dI)) (hB2 : ∀ n G a H, B 2 n G a H ↔ jOb (dC, dI) 2 2 (F2 n G) a H) (hB8 : ∀ n G a H, B 8 n G a H ↔ jOb (dC, dI) 8 4 (F8 n G) a H) (hB9 : ∀ n G a H, B 9 n G a H ↔ jOb (dC, dI) 9 5 (F9b n G) a H) (hB11 : ∀ n G a H, B 11 n G a H ↔ jOb (dC, dI) 11 9 (F11 n G) a H) (hB101 : ∀ n G a H, B 101 n G a H ↔ jAr (dC, dI) (ca 1) (fun j z => True) n a H) (hB102 : ∀ n G a H, B 102 n G a H ↔ jAl (dC, dI) (ca 2) n a H) (hB132 : ∀ n G a H, B 132 n G a H ↔ jAr (dC, dI) (ca 1) (fun j z => 0 ≤ z.toInt ∧ z.toInt ≤ 10) n a H) (hB196 : ∀ n G a H, B 196 n G a H ↔ jAr (dC, dI) (ca 0) (fun j z => jBf j z) n a H) (hB280 : ∀ n G a H, B 280 n G a H ↔ jAr (dC, dI) (ca 1) (fun j z => -1 ≤ z.toInt) n a H) (hB286 : ∀ n G a H, B 286 n G a H ↔ jAr (dC, dI) (ca 1) (fun j z => (0 ≤ z.toInt ∨ z.toInt = -3)) n a H) (hB287 : ∀ n G a H, B 287 n G a H ↔ jAr (dC, dI) (ca 1) (fun j z => 0 ≤ z.toInt ∧ z.toInt ≤ 65535) n a H) (hB288 : ∀ n G a H, B 288 n G a H ↔ jAr (dC, dI) (ca 1) (fun j z => 0 ≤ z.toInt ∧ z.toInt ≤ 160) n a H) (hB313 : ∀ n G a H, B 313 n G a H ↔ jAq (dC, dI) (ca 8) (jQk 280 80) n G a H) (G0 : jT) (H0 : Heap) (r0 : Nat) (r1 : Nat) (a2 : Int32) (r3 : Nat) (pc : Int32) (pa : Nat) (n_pa : Nat) (LC LS : Nat) : Met l yX7_statement (jw yX7_statement cX7_statement 6 none) ({ frames := 6, cells := LC - H0.size, slots := LS - jTot H0, locals := 194 }) (va_Pc [.ref r0, .ref r1, .int a2, .ref r3] (fun U => U.heap = H0 ∧ jX B base G0 [] H0 ∧ jG dC dI ca base U ∧ jK5 dC dI ca U ∧ G0 r3 = some (2, 0) ∧ G0 r1 = some (11, 0) ∧ G0 r0 = some (9, 0) ∧ G0 pa = some (196, n_pa) ∧ jP (dC, dI) G0 H0 [(r3, 2, 1, .int pc), (r3, 2, 0, .ref pa)] ∧ jIs (dC, dI) G0 H0 [(jFs11, jSef dC dI G0)] ∧ H0.size + (1048576 - n_pa) / 16 + 1 ≤ LC ∧ jTot H0 + 2 * (1048576 - n_pa) ≤ LS ∧ 0 ≤ pc.toInt ∧ pc.toInt ≤ n_pa ∧ 16 ≤ n_pa ∧ n_pa ≤ 1048576 ∧ jPw n_pa)) (va_Qv (S := Int32 × Nat × Nat × jT) (fun u => 0 ≤ u.1.toInt ∧ u.1.toInt ≤ u.2.2.1 ∧ n_pa ≤ u.2.2.1 ∧ u.2.2.1 ≤ 1048576 ∧ jPw u.2.2.1) (fun u t => jRa (dC, dI) B base G0 u.2.2.2 EX7_statement H0 ((u.2.2.1 - n_pa) / 16) (2 * (u.2.2.1 - n_pa)) [(r3, 2, 1, .int u.1), (r3, 2, 0, .ref u.2.1)] t.heap ∧ u.2.2.2 u.2.1 = some (196, u.2.2.1) ∧ (jNk [0, 1, 2, 3, 4, 5, 6, 7, 8, 9, 10, 11, 12, 13, 14, 15, 16]) G0 u.2.2.2 ∧ jOw (dC, dI) G0 2 r3 H0 t.heap ∧ jIs (dC, dI) u.2.2.2 t.heap [(jFs11, jSef dC dI u.2.2.2)]) (jA base)) (LC - H0.size) (LS - jTot H0) (jA base) := by
  refine Met.ofW (cc := cX7_statement) (maxL := 6) (ret := none) (by decide) rfl ?_
  intro p e s m args below meth c s₁ Bd hml hv
  obtain ⟨rfl, hH0, hX, hG, hK5, hg_r3, hg_r1, hg_r0, hg_pa, hP0, hI0, hLC0, hLS0, hp0, hp1, hp2, hp3, hp4⟩ := hv
  have hK := hG.1
  have hx := Bd.exec
  have hb := Bd.bytes
  have hr := Bd.returns
  have hts := atoms_spec (ws := (jw yX7_statement cX7_statement 6 none)) Bd.pre
  have htw : ∀ w ∈ jWl, w.before _ s = true := fun w h => hts w (List.mem_cons_of_mem _ h)
  have hown : s.vm.findClass RX7 = some m.cls := findClass_of_methodNamed Bd.named
  have hlocks := Bd.notSynchronized
  obtain ⟨Q, hQ⟩ : ∃ Q, Q = MQ below (va_Qv (S := Int32 × Nat × Nat × jT) (fun u => 0 ≤ u.1.toInt ∧ u.1.toInt ≤ u.2.2.1 ∧ n_pa ≤ u.2.2.1 ∧ u.2.2.1 ≤ 1048576 ∧ jPw u.2.2.1) (fun u t => jRa (dC, dI) B base G0 u.2.2.2 EX7_statement H0 ((u.2.2.1 - n_pa) / 16) (2 * (u.2.2.1 - n_pa)) [(r3, 2, 1, .int u.1), (r3, 2, 0, .ref u.2.1)] t.heap ∧ u.2.2.2 u.2.1 = some (196, u.2.2.1) ∧ (jNk [0, 1, 2, 3, 4, 5, 6, 7, 8, 9, 10, 11, 12, 13, 14, 15, 16]) G0 u.2.2.2 ∧ jOw (dC, dI) G0 2 r3 H0 t.heap ∧ jIs (dC, dI) u.2.2.2 t.heap [(jFs11, jSef dC dI u.2.2.2)]) (jA base)) ([.ref r0, .ref r1, .int a2, .ref r3] : List Value).toArray s (LC - H0.size) (LS - jTot H0) (jA base) := ⟨_, rfl⟩
  rw [← hQ]
  have hl := lv_entry ([.ref r0, .ref r1, .int a2, .ref r3]) (n := 6) (Nat.le_of_ble_eq_true rfl)
  rw [lg_entry_eq]
  generalize (lg_sl ([.ref r0, .ref r1, .int a2, .ref r3]) ++ List.replicate (6 - (lg_sl ([.ref r0, .ref r1, .int a2, .ref r3])).length) Slot.unset).toArray = ls at hl ⊢
  have hl : lv_has ls 6 [(0, .ref r0), (1, .ref r1), (2, .int a2), (3, .ref r3)] := hl
  generalize hR : (headSpec (jw yX7_statement cX7_statement 6 none) ({ frames := 6, cells := LC - H0.size, slots := LS - jTot H0, locals := 194 })).room = R
  subst hH0
  have hh : jSt (dC, dI) B base G0 G0 EX7_statement s.heap 0 0 [(r3, 2, 1, .int pc), (r3, 2, 0, .ref pa)] [] [(jFs11, jSef dC dI G0)] s.heap [] := jSt.start hX hP0 jMc.nil hI0
  clear hX hP0
  have hk0 : (0 : Int32).toInt = 0 := by decide
  have hk1 : (1 : Int32).toInt = 1 := by decide
  have hk4 : (4 : Int32).toInt = 4 := by decide
  have hk34 : (34 : Int32).toInt = 34 := by decide
  have hk2047 : (2047 : Int32).toInt = 2047 := by decide
  have hly_11_4 := htw (u_lay RX9 TX9 4) (jWc_wsX90 _ (u_in_lay (by decide)))
  have hly_11_5 := htw (u_lay RX9 TX9 5) (jWc_wsX90 _ (u_in_lay (by decide)))
  have hlk_86 := (htw (.fieldLink RX7 86 "ProofServer$State" "factNames" "[I") (jWr_30 _ (List.mem_of_getElem? (i := 17) rfl)))
  have hlk_97 := (htw (.fieldLink RX7 97 "ProofServer$State" "facts" "[[I") (jWr_30 _ (List.mem_of_getElem? (i := 18) rfl)))
  obtain ⟨str31, rstr31, hstr310⟩ := hG.str (o := RX7) (k := 31) (tx := "null") (List.mem_of_getElem? (i := 1010) (by decide +kernel))
  have hstr31 : jStr base str31 4 s s.heap := hstr310
  have hrg_a2 := jb_rng a2
  have hbs : base ≤ s.heap.size := Nat.le_of_lt (Nat.lt_of_le_of_lt (hh.ab hg_r0).1 (hh.ab hg_r0).2)
  have hRc : R.cells = LC - s.heap.size := by rw [← hR]; rfl
  have hRs : R.slots = LS - jTot s.heap := by rw [← hR]; rfl
  have hh_1 := hh.addI (jOw.ie (dC := dC) (dI := dI) (G0 := G0) (k := 2) (r := r3) (H0 := s.heap) (F := [(2, 0), (2, 1)]) (C := RX0) (T := TX0) (N := 2) rfl (by decide) hh.2.2.2.2.1 (jOw.rf))
  clear hh
  obtain ⟨sx_2, sy_2, sm_2, hs1_2, hs2_2, hg_sx_2, hg_sy_2, hsm_2⟩ := (hh_1.iv 1 rfl) _ hg_r1
  have hh_3 := hh_1.more (P1 := [(r1, 11, 4, .ref sx_2), (r1, 11, 5, .ref sy_2)]) (jP.cons hg_r1 hs1_2 (jP.cons hg_r1 hs2_2 jP.nil))
  clear hh_1 hs1_2 hs2_2
  refine lv_aload_n hx hb dX7_statement_0 rfl (lv_at hl 1 rfl) ?_
  refine j7_read hx hb hown hK (C := RX9) (T := TX9) (N := 9) rfl hly_11_4 hlk_86 (hh_3.at 0 rfl) dX7_statement_1 ?_
  refine lv_iload_n hx hb dX7_statement_4 rfl (lv_at hl 2 rfl) ?_
  have hsz_4 := hh_3.2.2.2.2.2.1
  have htt_4 := hh_3.2.2.2.2.2.2.1
  refine W.room (fun hrc_4 hrs_4 => ?_)
  refine va_calli (A0 := jA base) (H0 := s.heap) (va_runS (As := [.ref sx_2, .int a2]) (rest := []) ⟨hx, hb, hml, hown, hts⟩ (uX9_find l dC dI ca base B hB hAp hB101 G0 s.heap sx_2 a2 sm_2) (va_cwS 2 hts (jgS (jWr_30 _ (List.mem_of_getElem? (i := 19) rfl)) (jWr_30 _ (List.mem_of_getElem? (i := 20) rfl)) (jWr_4 _ (List.mem_of_getElem? (i := 18) rfl)) (jWr_30 _ (List.mem_of_getElem? (i := 21) rfl))) rfl rfl rfl (by decide +kernel) ⟨by rw [← hR]; exact Nat.le_of_ble_eq_true rfl, by rw [← hR]; exact Nat.le_of_ble_eq_true rfl⟩) ⟨fun a U g mk q => by obtain ⟨q0, q1, q2, qK, q10, q11, q12⟩ := q; exact ⟨q0, q1, q2, jG.calling g mk a qK, q10, q11, q12⟩, fun U hU hW => ⟨rfl, hU, hh_3.2.1, hG.step hW hU hh_3.1, hg_sx_2, jP.nil, by first | omega | rfl | assumption | fail⟩⟩ rfl rfl hl.1 rfl (lv_room (Nat.le_of_ble_eq_true rfl)) dX7_statement_5 ⟨by rw [hRc]; show _ + 0 ≤ _; omega, by rw [hRs]; show _ + 0 ≤ _; omega⟩) hh_3.1 (fun q _ h => h) (fun q h => h) (fun r_5 u_4 t_4 H_4 locs_4 ht_4 hvm_4 hr_5 hb_4 hz_4 hk_4 hS_4 => ?_)
  rw [ht_4] at hb_4
  obtain ⟨hb_41, hb_42, hb_43, hb_44, hb_45⟩ := hb_4
  have hh_4 : jSt (dC, dI) B base G0 G0 EX7_statement s.heap 0 0 [(r1, 11, 4, .ref sx_2), (r1, 11, 5, .ref sy_2), (r3, 2, 1, .int pc), (r3, 2, 0, .ref pa)] [] [([(2, 0), (2, 1)], jOw (dC, dI) G0 2 r3 s.heap), (jFs11, jSef dC dI G0)] H_4 locs_4 := ((hh_3.call hb_41 hb_42 hb_43 hb_44 hS_4 rfl (L1 := [(r1, 11, 4, .ref sx_2), (r1, 11, 5, .ref sy_2), (r3, 2, 1, .int pc), (r3, 2, 0, .ref pa)]) [0, 1, 2, 3] rfl rfl (M1 := []) [] rfl rfl (I1 := [([(2, 0), (2, 1)], jOw (dC, dI) G0 2 r3 s.heap), (jFs11, jSef dC dI G0)]) [0, 1] rfl rfl).more hb_45)
  clear hh_3 ht_4 hvm_4 hz_4 hk_4 hS_4 hb_41 hb_42 hb_43 hb_44 hb_45
  obtain ⟨hr_5_0, hr_5_1⟩ := hr_5
  refine lv_istore (lv' := [(4, .int r_5), (0, .ref r0), (1, .ref r1), (2, .int a2), (3, .ref r3)]) hx hb dX7_statement_8 hl (by decide) rfl (fun ls hl => ?_)
  refine lv_aload_n hx hb dX7_statement_10 rfl (lv_at hl 2 rfl) ?_
  refine lv_iload_n hx hb dX7_statement_11 rfl (lv_at hl 3 rfl) ?_
  have hsz_6 := hh_4.2.2.2.2.2.1
  have htt_6 := hh_4.2.2.2.2.2.2.1
  refine W.room (fun hrc_6 hrs_6 => ?_)
  refine va_calli (A0 := jA base) (H0 := s.heap) (va_runV (As := [.int a2]) (rest := []) ⟨hx, hb, hml, hown, hts⟩ (uX9_symbolOf l dC dI ca base B hB hAp hB11 hB101 G0 H_4 r1 a2) (cwV 1 hts (jgV (jWr_30 _ (List.mem_of_getElem? (i := 22) rfl)) (jWr_30 _ (List.mem_of_getElem? (i := 23) rfl)) (jWr_31 _ (List.mem_of_getElem? (i := 0) rfl)) (jWr_4 _ (List.mem_of_getElem? (i := 18) rfl)) (jWr_31 _ (List.mem_of_getElem? (i := 1) rfl))) rfl rfl rfl (by decide +kernel) ⟨by rw [← hR]; exact Nat.le_of_ble_eq_true rfl, by rw [← hR]; exact Nat.le_of_ble_eq_true rfl⟩) ⟨fun a U g mk q => by obtain ⟨q0, q1, q2, qK, q10, q11, q12⟩ := q; exact ⟨q0, q1, q2, jG.calling g mk a qK, q10, q11, q12⟩, hh_4.recv (C := RX9) (T := TX9) (N := 9) hB11 rfl (by decide) hg_r1 hK, fun U hU hW => ⟨rfl, hU, hh_4.2.1, hG.step hW hU hh_4.1, hg_r1, jP.nil, trivial⟩⟩ rfl rfl hl.1 rfl (lv_room (Nat.le_of_ble_eq_true rfl)) dX7_statement_12 ⟨by rw [hRc]; show _ + 0 ≤ _; omega, by rw [hRs]; show _ + 0 ≤ _; omega⟩) hh_4.1 (fun q _ h => h) (fun q h => h) (fun r_7 u_6 t_6 H_6 locs_6 ht_6 hvm_6 hr_7 hb_6 hz_6 hk_6 hS_6 => ?_)
  rw [ht_6] at hb_6
  obtain ⟨hb_61, hb_62, hb_63, hb_64, hb_65⟩ := hb_6
  have hh_6 : jSt (dC, dI) B base G0 G0 EX7_statement s.heap 0 0 [(r1, 11, 4, .ref sx_2), (r1, 11, 5, .ref sy_2), (r3, 2, 1, .int pc), (r3, 2, 0, .ref pa)] [] [([(2, 0), (2, 1)], jOw (dC, dI) G0 2 r3 s.heap), (jFs11, jSef dC dI G0)] H_6 locs_6 := ((hh_4.call hb_61 hb_62 hb_63 hb_64 hS_6 rfl (L1 := [(r1, 11, 4, .ref sx_2), (r1, 11, 5, .ref sy_2), (r3, 2, 1, .int pc), (r3, 2, 0, .ref pa)]) [0, 1, 2, 3] rfl rfl (M1 := []) [] rfl rfl (I1 := [([(2, 0), (2, 1)], jOw (dC, dI) G0 2 r3 s.heap), (jFs11, jSef dC dI G0)]) [0, 1] rfl rfl).more hb_65)
  clear hh_4 ht_6 hvm_6 hz_6 hk_6 hS_6 hb_61 hb_62 hb_63 hb_64 hb_65
  refine lv_istore (lv' := [(5, .int r_7), (4, .int r_5), (0, .ref r0), (1, .ref r1), (2, .int a2), (3, .ref r3)]) hx hb dX7_statement_15 hl (by decide) rfl (fun ls hl => ?_)
  refine lv_iload hx hb dX7_statement_17 (lv_at hl 1 rfl) ?_
  refine lv_if_lt (tgt := 49) hx hb dX7_statement_19 (by decide) (fun c_8 => ?_) (fun c_8 => ?_)
  · skip
    have c_8' : r_5.toInt < 0 := jb_lt (rfl) ((by decide)) c_8
    refine lv_iload hx hb dX7_statement_49 (lv_at hl 0 rfl) ?_
    refine lv_if_lt (tgt := 69) hx hb dX7_statement_51 (by decide) (fun c_9 => ?_) (fun c_9 => ?_)
    · skip
      have c_9' : r_7.toInt < 0 := jb_lt (rfl) ((by decide)) c_9
      refine lv_aload_n hx hb dX7_statement_69 rfl (lv_at hl 5 rfl) ?_
      refine va_ldcS hx hb hown rstr31 dX7_statement_70 ?_
      have hsz_10 := hh_6.2.2.2.2.2.1
      have htt_10 := hh_6.2.2.2.2.2.2.1
      refine W.room (fun hrc_10 hrs_10 => ?_)
      refine va_callv (A0 := jA base) (H0 := s.heap) (va_runV (As := [.ref str31]) (rest := []) ⟨hx, hb, hml, hown, hts⟩ (uX0_text l dC dI ca base B hB hAp hB2 hB196 G0 H_6 r3 str31 4 pc pa n_pa LC LS) (cwV 1 hts (jgV (jWr_31 _ (List.mem_of_getElem? (i := 16) rfl)) (jWr_25 _ (List.mem_of_getElem? (i := 22) rfl)) (jWr_25 _ (List.mem_of_getElem? (i := 23) rfl)) (jWr_1 _ (List.mem_of_getElem? (i := 14) rfl)) (jWr_26 _ (List.mem_of_getElem? (i := 0) rfl))) rfl rfl rfl (by decide +kernel) ⟨by rw [← hR]; exact Nat.le_of_ble_eq_true rfl, by rw [← hR]; exact Nat.le_of_ble_eq_true rfl⟩) ⟨fun a U g mk q => by obtain ⟨q0, q1, q2, qK, q10, q11, q12, q13, q14⟩ := q; exact ⟨q0, q1, q2, jG.calling g mk a qK, (q10.moved (Vm.Alike.refl U.vm)), q11, q12, q13, q14⟩, hh_6.recv (C := RX0) (T := TX0) (N := 2) hB2 rfl (by decide) hg_r3 hK, fun U hU hW => ⟨rfl, hU, hh_6.2.1, hG.step hW hU hh_6.1, (hstr31.moved hW.alike).kept hh_6.1.2.1, hg_r3, hg_pa, (hh_6.2.2.1.sub (L1 := [(r3, 2, 1, .int pc), (r3, 2, 0, .ref pa)]) [2, 3] rfl), (by omega), (by omega), ⟨(by first | omega | rfl | assumption | fail), (by first | omega | rfl | assumption | fail), (by first | omega | rfl | assumption | fail), (by first | omega | rfl | assumption | fail), (by first | assumption | fail | omega), (by first | omega | rfl | assumption | fail)⟩⟩⟩ rfl rfl hl.1 rfl (lv_room (Nat.le_of_ble_eq_true rfl)) dX7_statement_72 ⟨by rw [hRc]; omega, by rw [hRs]; omega⟩) hh_6.1 (fun q _ h => h) (fun q h => h) (fun u_10 t_10 H_10 locs_10 ht_10 hvm_10 hr_11 hb_10 hz_10 hk_10 hS_10 => ?_)
      obtain ⟨qc_10, qa_10, m_qa_10, G_10⟩ := u_10
      rw [ht_10] at hb_10
      simp only at hb_10
      obtain ⟨⟨hb_101, hb_102, hb_103, hb_104, hb_105, hb_106⟩, hgq_10_0, hN_10, hbO_10⟩ := hb_10
      have hh_10 : jSt (dC, dI) B base G0 G_10 EX7_statement s.heap (0 + ((m_qa_10 - n_pa) / 16)) (0 + (2 * (m_qa_10 - n_pa))) [(r3, 2, 1, .int qc_10), (r3, 2, 0, .ref qa_10), (r1, 11, 4, .ref sx_2), (r1, 11, 5, .ref sy_2)] [] [(jFs11, jSef dC dI G0)] H_10 locs_10 := (hh_6.callG hb_101 hb_102 hb_103 hb_104 hb_105 hS_10 rfl (L1 := [(r1, 11, 4, .ref sx_2), (r1, 11, 5, .ref sy_2)]) [0, 1] rfl rfl (M1 := []) [] rfl rfl (I1 := [(jFs11, jSef dC dI G0)]) [1] rfl rfl).more hb_106
      have hNn_10 : (jNk [0, 1, 2, 3, 4, 5, 6, 7, 8, 9, 10, 11, 12, 13, 14, 15, 16]) G0 G_10 := (jNk.rf).tr hN_10
      have hg_12 := hb_102 _ _ hg_r0
      have hg_13 := hb_102 _ _ hg_r1
      have hg_14 := hb_102 _ _ hg_r3
      have hg_15 := hb_102 _ _ hg_sx_2
      have hg_16 := hb_102 _ _ hg_sy_2
      have hd_17 := jSef.grow (hh_10.iv 0 rfl) hb_102 hN_10 (by decide)
      have hh_18 := hh_10.sub (L1 := [(r3, 2, 1, .int qc_10), (r3, 2, 0, .ref qa_10), (r1, 11, 4, .ref sx_2), (r1, 11, 5, .ref sy_2)]) [0, 1, 2, 3] rfl (M1 := []) [] rfl (I1 := []) [] rfl
      clear hh_10
      have hh_19 := hh_18.addI (jSef.ie hd_17)
      clear hh_18
      have hd_20 := jOw.tr (hh_6.iv 0 rfl) hh_6.2.2.2.2.1 hbO_10
      have hh_21 := hh_19.addI (jOw.ie (dC := dC) (dI := dI) (G0 := G0) (k := 2) (r := r3) (H0 := s.heap) (F := [(2, 0), (2, 1)]) (C := RX0) (T := TX0) (N := 2) rfl (by decide) hh_19.2.2.2.2.1 (hd_20))
      clear hh_19
      try simp only at hr_11
      obtain ⟨hr_11_0, hr_11_1, hr_11_2, hr_11_3, hr_11_4⟩ := hr_11
      have hh_22 := hh_21.wk (zc1 := (m_qa_10 - n_pa) / 16) (zs1 := 2 * (m_qa_10 - n_pa)) (by omega) (by omega)
      clear hh_21
      try clear hsz_10 htt_10 hrc_10 hrs_10
      try clear hb_104 hb_105
      have hsz_23 := hh_22.2.2.2.2.2.1
      have htt_23 := hh_22.2.2.2.2.2.2.1
      refine W.room (fun hrc_23 hrs_23 => ?_)
      refine W.widen (k := LC - s.heap.size) (n := LS - jTot s.heap) (by omega) (by omega) ?_
      rw [hQ]
      exact W.vret hx hb hr (fun t ht hW => ⟨⟨(qc_10, qa_10, m_qa_10, G_10), rfl, by (try dsimp only); exact ⟨(by first | omega | rfl | assumption | fail), (by first | omega | rfl | assumption | fail), (by first | omega | rfl | assumption | fail), (by first | omega | rfl | assumption | fail), (by first | assumption | fail | omega)⟩, ⟨hh_22.ra (by first | omega | (simp only; omega)) (by first | omega | (simp only; omega)) (M1 := [(r3, 2, 1, .int qc_10), (r3, 2, 0, .ref qa_10)]) [0, 1] rfl ht, hgq_10_0, hNn_10, by rw [ht]; exact hh_22.iv 0 rfl, by rw [ht]; exact hh_22.2.2.2.2.2.2.2.2.sub (L1 := [(jFs11, jSef dC dI G_10)]) [1] rfl⟩⟩, by rw [ht]; try exact hh_22.1.1, fun q h9 hq => by rw [ht]; try exact hh_22.1.2.1 q h9 hq⟩) hh_22.1.2.2 dX7_statement_75
    · skip
      have c_9' : r_7.toInt ≥ 0 := jb_lt_n (rfl) ((by decide)) c_9
      refine lv_aload_n hx hb dX7_statement_54 rfl (lv_at hl 5 rfl) ?_
      refine lv_iload hx hb dX7_statement_55 (lv_at hl 0 rfl) ?_
      refine lv_iconst (v := 4) hx hb dX7_statement_57 (by decide) ?_
      refine lv_ishr hx hb dX7_statement_58 ?_
      refine lv_topi (fun z_24 ez_24 => ?_)
      have hz_24 : z_24.toInt = r_7.toInt / 2 ^ 4 := by rw [ez_24]; exact jb_ishr 4 (rfl) (by decide)
      refine lv_sipush (v := 2047) hx hb dX7_statement_59 (by decide) ?_
      refine lv_iand hx hb dX7_statement_62 ?_
      refine lv_topi (fun z_25 ez_25 => ?_)
      have hz_25 : 0 ≤ z_25.toInt ∧ z_25.toInt ≤ 2047 := by rw [ez_25]; exact jb_and z_24 (m := 2047) (k := 11) (by decide) (by decide)
      have hbz_25 := jb_rng z_24
      have hsz_26 := hh_6.2.2.2.2.2.1
      have htt_26 := hh_6.2.2.2.2.2.2.1
      refine W.room (fun hrc_26 hrs_26 => ?_)
      refine va_callv (A0 := jA base) (H0 := s.heap) (va_runV (As := [.int z_25]) (rest := []) ⟨hx, hb, hml, hown, hts⟩ (uX0_number l dC dI ca base B hB hAp hB2 hB196 G0 H_6 r3 z_25 pc pa n_pa LC LS) (cwV 1 hts (jgV (jWr_32 _ (List.mem_of_getElem? (i := 20) rfl)) (jWr_24 _ (List.mem_of_getElem? (i := 16) rfl)) (jWr_24 _ (List.mem_of_getElem? (i := 17) rfl)) (jWr_1 _ (List.mem_of_getElem? (i := 14) rfl)) (jWr_24 _ (List.mem_of_getElem? (i := 18) rfl))) rfl rfl rfl (by decide +kernel) ⟨by rw [← hR]; exact Nat.le_of_ble_eq_true rfl, by rw [← hR]; exact Nat.le_of_ble_eq_true rfl⟩) ⟨fun a U g mk q => by obtain ⟨q0, q1, q2, qK, q10, q11, q12, q13⟩ := q; exact ⟨q0, q1, q2, jG.calling g mk a qK, q10, q11, q12, q13⟩, hh_6.recv (C := RX0) (T := TX0) (N := 2) hB2 rfl (by decide) hg_r3 hK, fun U hU hW => ⟨rfl, hU, hh_6.2.1, hG.step hW hU hh_6.1, hg_r3, hg_pa, (hh_6.2.2.1.sub (L1 := [(r3, 2, 1, .int pc), (r3, 2, 0, .ref pa)]) [2, 3] rfl), (by omega), (by omega), ⟨(by first | omega | rfl | assumption | fail), (by first | omega | rfl | assumption | fail), (by first | omega | rfl | assumption | fail), (by first | omega | rfl | assumption | fail), (by first | assumption | fail | omega)⟩⟩⟩ rfl rfl hl.1 rfl (lv_room (Nat.le_of_ble_eq_true rfl)) dX7_statement_63 ⟨by rw [hRc]; omega, by rw [hRs]; omega⟩) hh_6.1 (fun q _ h => h) (fun q h => h) (fun u_26 t_26 H_26 locs_26 ht_26 hvm_26 hr_27 hb_26 hz_26 hk_26 hS_26 => ?_)
      obtain ⟨qc_26, qa_26, m_qa_26, G_26⟩ := u_26
      rw [ht_26] at hb_26
      simp only at hb_26
      obtain ⟨⟨hb_261, hb_262, hb_263, hb_264, hb_265, hb_266⟩, hgq_26_0, hN_26, hbO_26⟩ := hb_26
      have hh_26 : jSt (dC, dI) B base G0 G_26 EX7_statement s.heap (0 + ((m_qa_26 - n_pa) / 16)) (0 + (2 * (m_qa_26 - n_pa))) [(r3, 2, 1, .int qc_26), (r3, 2, 0, .ref qa_26), (r1, 11, 4, .ref sx_2), (r1, 11, 5, .ref sy_2)] [] [(jFs11, jSef dC dI G0)] H_26 locs_26 := (hh_6.callG hb_261 hb_262 hb_263 hb_264 hb_265 hS_26 rfl (L1 := [(r1, 11, 4, .ref sx_2), (r1, 11, 5, .ref sy_2)]) [0, 1] rfl rfl (M1 := []) [] rfl rfl (I1 := [(jFs11, jSef dC dI G0)]) [1] rfl rfl).more hb_266
      have hNn_26 : (jNk [0, 1, 2, 3, 4, 5, 6, 7, 8, 9, 10, 11, 12, 13, 14, 15, 16]) G0 G_26 := (jNk.rf).tr hN_26
      have hg_28 := hb_262 _ _ hg_r0
      have hg_29 := hb_262 _ _ hg_r1
      have hg_30 := hb_262 _ _ hg_r3
      have hg_31 := hb_262 _ _ hg_sx_2
      have hg_32 := hb_262 _ _ hg_sy_2
      have hd_33 := jSef.grow (hh_26.iv 0 rfl) hb_262 hN_26 (by decide)
      have hh_34 := hh_26.sub (L1 := [(r3, 2, 1, .int qc_26), (r3, 2, 0, .ref qa_26), (r1, 11, 4, .ref sx_2), (r1, 11, 5, .ref sy_2)]) [0, 1, 2, 3] rfl (M1 := []) [] rfl (I1 := []) [] rfl
      clear hh_26
      have hh_35 := hh_34.addI (jSef.ie hd_33)
      clear hh_34
      have hd_36 := jOw.tr (hh_6.iv 0 rfl) hh_6.2.2.2.2.1 hbO_26
      have hh_37 := hh_35.addI (jOw.ie (dC := dC) (dI := dI) (G0 := G0) (k := 2) (r := r3) (H0 := s.heap) (F := [(2, 0), (2, 1)]) (C := RX0) (T := TX0) (N := 2) rfl (by decide) hh_35.2.2.2.2.1 (hd_36))
      clear hh_35
      try simp only at hr_27
      obtain ⟨hr_27_0, hr_27_1, hr_27_2, hr_27_3, hr_27_4⟩ := hr_27
      have hh_38 := hh_37.wk (zc1 := (m_qa_26 - n_pa) / 16) (zs1 := 2 * (m_qa_26 - n_pa)) (by omega) (by omega)
      clear hh_37
      try clear hsz_26 htt_26 hrc_26 hrs_26
      try clear hb_264 hb_265
      refine lv_goto (tgt := 75) hx hb dX7_statement_66 (by decide) ?_
      have hsz_39 := hh_38.2.2.2.2.2.1
      have htt_39 := hh_38.2.2.2.2.2.2.1
      refine W.room (fun hrc_39 hrs_39 => ?_)
      refine W.widen (k := LC - s.heap.size) (n := LS - jTot s.heap) (by omega) (by omega) ?_
      rw [hQ]
      exact W.vret hx hb hr (fun t ht hW => ⟨⟨(qc_26, qa_26, m_qa_26, G_26), rfl, by (try dsimp only); exact ⟨(by first | omega | rfl | assumption | fail), (by first | omega | rfl | assumption | fail), (by first | omega | rfl | assumption | fail), (by first | omega | rfl | assumption | fail), (by first | assumption | fail | omega)⟩, ⟨hh_38.ra (by first | omega | (simp only; omega)) (by first | omega | (simp only; omega)) (M1 := [(r3, 2, 1, .int qc_26), (r3, 2, 0, .ref qa_26)]) [0, 1] rfl ht, hgq_26_0, hNn_26, by rw [ht]; exact hh_38.iv 0 rfl, by rw [ht]; exact hh_38.2.2.2.2.2.2.2.2.sub (L1 := [(jFs11, jSef dC dI G_26)]) [1] rfl⟩⟩, by rw [ht]; try exact hh_38.1.1, fun q h9 hq => by rw [ht]; try exact hh_38.1.2.1 q h9 hq⟩) hh_38.1.2.2 dX7_statement_75
  · skip
    have c_8' : r_5.toInt ≥ 0 := jb_lt_n (rfl) ((by decide)) c_8
    refine lv_aload_n hx hb dX7_statement_22 rfl (lv_at hl 5 rfl) ?_
    refine lv_bipush (v := 34) hx hb dX7_statement_23 (by decide) ?_
    have hsz_40 := hh_6.2.2.2.2.2.1
    have htt_40 := hh_6.2.2.2.2.2.2.1
    refine W.room (fun hrc_40 hrs_40 => ?_)
    refine va_callv (A0 := jA base) (H0 := s.heap) (va_runV (As := [.int 34]) (rest := []) ⟨hx, hb, hml, hown, hts⟩ (uX0_put l dC dI ca base B hB hAp hB2 hB196 G0 H_6 r3 34 pc pa n_pa LC LS) (cwV 1 hts (jgV (jWr_31 _ (List.mem_of_getElem? (i := 2) rfl)) (jWr_16 _ (List.mem_of_getElem? (i := 0) rfl)) (jWr_16 _ (List.mem_of_getElem? (i := 1) rfl)) (jWr_1 _ (List.mem_of_getElem? (i := 14) rfl)) (jWr_16 _ (List.mem_of_getElem? (i := 2) rfl))) rfl rfl rfl (by decide +kernel) ⟨by rw [← hR]; exact Nat.le_of_ble_eq_true rfl, by rw [← hR]; exact Nat.le_of_ble_eq_true rfl⟩) ⟨fun a U g mk q => by obtain ⟨q0, q1, q2, qK, q10, q11, q12, q13⟩ := q; exact ⟨q0, q1, q2, jG.calling g mk a qK, q10, q11, q12, q13⟩, hh_6.recv (C := RX0) (T := TX0) (N := 2) hB2 rfl (by decide) hg_r3 hK, fun U hU hW => ⟨rfl, hU, hh_6.2.1, hG.step hW hU hh_6.1, hg_r3, hg_pa, (hh_6.2.2.1.sub (L1 := [(r3, 2, 1, .int pc), (r3, 2, 0, .ref pa)]) [2, 3] rfl), (by omega), (by omega), ⟨(by first | omega | rfl | assumption | fail), (by first | omega | rfl | assumption | fail), (by first | omega | rfl | assumption | fail), (by first | omega | rfl | assumption | fail), (by first | assumption | fail | omega)⟩⟩⟩ rfl rfl hl.1 rfl (lv_room (Nat.le_of_ble_eq_true rfl)) dX7_statement_25 ⟨by rw [hRc]; omega, by rw [hRs]; omega⟩) hh_6.1 (fun q _ h => h) (fun q h => h) (fun u_40 t_40 H_40 locs_40 ht_40 hvm_40 hr_41 hb_40 hz_40 hk_40 hS_40 => ?_)
    obtain ⟨qc_40, qa_40, m_qa_40, G_40⟩ := u_40
    rw [ht_40] at hb_40
    simp only at hb_40
    obtain ⟨⟨hb_401, hb_402, hb_403, hb_404, hb_405, hb_406⟩, hgq_40_0, hN_40, hbO_40⟩ := hb_40
    have hh_40 : jSt (dC, dI) B base G0 G_40 EX7_statement s.heap (0 + ((m_qa_40 - n_pa) / 16)) (0 + (2 * (m_qa_40 - n_pa))) [(r3, 2, 1, .int qc_40), (r3, 2, 0, .ref qa_40), (r1, 11, 4, .ref sx_2), (r1, 11, 5, .ref sy_2)] [] [(jFs11, jSef dC dI G0)] H_40 locs_40 := (hh_6.callG hb_401 hb_402 hb_403 hb_404 hb_405 hS_40 rfl (L1 := [(r1, 11, 4, .ref sx_2), (r1, 11, 5, .ref sy_2)]) [0, 1] rfl rfl (M1 := []) [] rfl rfl (I1 := [(jFs11, jSef dC dI G0)]) [1] rfl rfl).more hb_406
    have hNn_40 : (jNk [0, 1, 2, 3, 4, 5, 6, 7, 8, 9, 10, 11, 12, 13, 14, 15, 16]) G0 G_40 := (jNk.rf).tr hN_40
    have hg_42 := hb_402 _ _ hg_r0
    have hg_43 := hb_402 _ _ hg_r1
    have hg_44 := hb_402 _ _ hg_r3
    have hg_45 := hb_402 _ _ hg_sx_2
    have hg_46 := hb_402 _ _ hg_sy_2
    have hd_47 := jSef.grow (hh_40.iv 0 rfl) hb_402 hN_40 (by decide)
    have hh_48 := hh_40.sub (L1 := [(r3, 2, 1, .int qc_40), (r3, 2, 0, .ref qa_40), (r1, 11, 4, .ref sx_2), (r1, 11, 5, .ref sy_2)]) [0, 1, 2, 3] rfl (M1 := []) [] rfl (I1 := []) [] rfl
    clear hh_40
    have hh_49 := hh_48.addI (jSef.ie hd_47)
    clear hh_48
    have hd_50 := jOw.tr (hh_6.iv 0 rfl) hh_6.2.2.2.2.1 hbO_40
    have hh_51 := hh_49.addI (jOw.ie (dC := dC) (dI := dI) (G0 := G0) (k := 2) (r := r3) (H0 := s.heap) (F := [(2, 0), (2, 1)]) (C := RX0) (T := TX0) (N := 2) rfl (by decide) hh_49.2.2.2.2.1 (hd_50))
    clear hh_49
    try simp only at hr_41
    obtain ⟨hr_41_0, hr_41_1, hr_41_2, hr_41_3, hr_41_4⟩ := hr_41
    have hh_52 := hh_51.wk (zc1 := (m_qa_40 - n_pa) / 16) (zs1 := 2 * (m_qa_40 - n_pa)) (by omega) (by omega)
    clear hh_51
    try clear hsz_40 htt_40 hrc_40 hrs_40
    try clear hb_404 hb_405
    refine lv_aload_n hx hb dX7_statement_28 rfl (lv_at hl 2 rfl) ?_
    refine lv_aload_n hx hb dX7_statement_29 rfl (lv_at hl 3 rfl) ?_
    refine j7_read hx hb hown hK (C := RX9) (T := TX9) (N := 9) rfl hly_11_5 hlk_97 (hh_52.at 3 rfl) dX7_statement_30 ?_
    refine lv_iload hx hb dX7_statement_33 (lv_at hl 1 rfl) ?_
    refine j7_qaldA hx hb hK5 hh_52 hB313 (by decide) hg_46 (x := r_5.toInt) (rfl) (by omega) dX7_statement_35 (fun o_53 ho_53 => ?_)
    obtain ⟨el_54, nel_54, rfl, hg_el_54, hn_el_54⟩ := ho_53
    simp only [va_rf]
    refine lv_aload_n hx hb dX7_statement_36 rfl (lv_at hl 5 rfl) ?_
    have hsz_55 := hh_52.2.2.2.2.2.1
    have htt_55 := hh_52.2.2.2.2.2.2.1
    refine W.room (fun hrc_55 hrs_55 => ?_)
    refine va_callv (A0 := jA base) (H0 := s.heap) (va_runV (As := [.ref el_54, .ref r3]) (rest := []) ⟨hx, hb, hml, hown, hts⟩ (uX7_formula l dC dI ca base B hB hAp hB2 hB8 hB9 hB102 hB132 hB196 hB280 hB286 hB287 hB288 G_40 H_40 r0 el_54 r3 nel_54 qc_40 qa_40 m_qa_40 LC LS) (cwV 2 hts (jgV (jWr_31 _ (List.mem_of_getElem? (i := 3) rfl)) (jWr_31 _ (List.mem_of_getElem? (i := 4) rfl)) (jWr_31 _ (List.mem_of_getElem? (i := 5) rfl)) (jWr_2 _ (List.mem_of_getElem? (i := 8) rfl)) (jWr_31 _ (List.mem_of_getElem? (i := 6) rfl))) rfl rfl rfl (by decide +kernel) ⟨by rw [← hR]; exact Nat.le_of_ble_eq_true rfl, by rw [← hR]; exact Nat.le_of_ble_eq_true rfl⟩) ⟨fun a U g mk q => by obtain ⟨q0, q1, q2, qK, q10, q11, q12, q13, q14, q15⟩ := q; exact ⟨q0, q1, q2, jG.calling g mk a qK, q10, q11, q12, q13, q14, q15⟩, hh_52.recv (C := RX7) (T := TX7) (N := 5) hB9 rfl (by decide) hg_42 hK, fun U hU hW => ⟨rfl, hU, hh_52.2.1, hG.step hW hU hh_52.1, hg_44, hg_el_54, hg_42, hgq_40_0, (hh_52.2.2.1.sub (L1 := [(r3, 2, 1, .int qc_40), (r3, 2, 0, .ref qa_40)]) [0, 1] rfl), (by omega), (by omega), ⟨(by first | omega | rfl | assumption | fail), (by first | omega | rfl | assumption | fail), (by first | omega | rfl | assumption | fail), (by first | omega | rfl | assumption | fail), (by first | assumption | fail | omega), (by first | omega | rfl | assumption | fail)⟩⟩⟩ rfl rfl hl.1 rfl (lv_room (Nat.le_of_ble_eq_true rfl)) dX7_statement_37 ⟨by rw [hRc]; omega, by rw [hRs]; omega⟩) hh_52.1 (fun q _ h => h) (fun q h => h) (fun u_55 t_55 H_55 locs_55 ht_55 hvm_55 hr_56 hb_55 hz_55 hk_55 hS_55 => ?_)
    obtain ⟨qc_55, qa_55, m_qa_55, G_55⟩ := u_55
    rw [ht_55] at hb_55
    simp only at hb_55
    obtain ⟨⟨hb_551, hb_552, hb_553, hb_554, hb_555, hb_556⟩, hgq_55_0, hN_55, hbO_55⟩ := hb_55
    have hh_55 : jSt (dC, dI) B base G0 G_55 EX7_statement s.heap (((m_qa_40 - n_pa) / 16) + ((m_qa_55 - m_qa_40) / 16)) ((2 * (m_qa_40 - n_pa)) + (2 * (m_qa_55 - m_qa_40))) [(r3, 2, 1, .int qc_55), (r3, 2, 0, .ref qa_55), (r1, 11, 4, .ref sx_2), (r1, 11, 5, .ref sy_2)] [] [(jFs11, jSef dC dI G_40)] H_55 locs_55 := (hh_52.callG hb_551 hb_552 hb_553 hb_554 hb_555 hS_55 rfl (L1 := [(r1, 11, 4, .ref sx_2), (r1, 11, 5, .ref sy_2)]) [2, 3] rfl rfl (M1 := []) [] rfl rfl (I1 := [(jFs11, jSef dC dI G_40)]) [1] rfl rfl).more hb_556
    have hNn_55 : (jNk [0, 1, 2, 3, 4, 5, 6, 7, 8, 9, 10, 11, 12, 13, 14, 15, 16]) G0 G_55 := (hNn_40).tr hN_55
    have hg_57 := hb_552 _ _ hg_42
    have hg_58 := hb_552 _ _ hg_43
    have hg_59 := hb_552 _ _ hg_44
    have hg_60 := hb_552 _ _ hg_45
    have hg_61 := hb_552 _ _ hg_46
    have hd_62 := jSef.grow (hh_55.iv 0 rfl) hb_552 hN_55 (by decide)
    have hh_63 := hh_55.sub (L1 := [(r3, 2, 1, .int qc_55), (r3, 2, 0, .ref qa_55), (r1, 11, 4, .ref sx_2), (r1, 11, 5, .ref sy_2)]) [0, 1, 2, 3] rfl (M1 := []) [] rfl (I1 := []) [] rfl
    clear hh_55
    have hh_64 := hh_63.addI (jSef.ie hd_62)
    clear hh_63
    have hd_65 := jOw.tr (hh_52.iv 0 rfl) hh_52.2.2.2.2.1 hbO_55
    have hh_66 := hh_64.addI (jOw.ie (dC := dC) (dI := dI) (G0 := G0) (k := 2) (r := r3) (H0 := s.heap) (F := [(2, 0), (2, 1)]) (C := RX0) (T := TX0) (N := 2) rfl (by decide) hh_64.2.2.2.2.1 (hd_65))
    clear hh_64
    try simp only at hr_56
    obtain ⟨hr_56_0, hr_56_1, hr_56_2, hr_56_3, hr_56_4⟩ := hr_56
    have hh_67 := hh_66.wk (zc1 := (m_qa_55 - n_pa) / 16) (zs1 := 2 * (m_qa_55 - n_pa)) (by omega) (by omega)
    clear hh_66
    try clear hsz_55 htt_55 hrc_55 hrs_55
    try clear hb_554 hb_555
    refine lv_aload_n hx hb dX7_statement_40 rfl (lv_at hl 5 rfl) ?_
    refine lv_bipush (v := 34) hx hb dX7_statement_41 (by decide) ?_
    have hsz_68 := hh_67.2.2.2.2.2.1
    have htt_68 := hh_67.2.2.2.2.2.2.1
    refine W.room (fun hrc_68 hrs_68 => ?_)
    refine va_callv (A0 := jA base) (H0 := s.heap) (va_runV (As := [.int 34]) (rest := []) ⟨hx, hb, hml, hown, hts⟩ (uX0_put l dC dI ca base B hB hAp hB2 hB196 G_55 H_55 r3 34 qc_55 qa_55 m_qa_55 LC LS) (cwV 1 hts (jgV (jWr_31 _ (List.mem_of_getElem? (i := 2) rfl)) (jWr_16 _ (List.mem_of_getElem? (i := 0) rfl)) (jWr_16 _ (List.mem_of_getElem? (i := 1) rfl)) (jWr_1 _ (List.mem_of_getElem? (i := 14) rfl)) (jWr_16 _ (List.mem_of_getElem? (i := 2) rfl))) rfl rfl rfl (by decide +kernel) ⟨by rw [← hR]; exact Nat.le_of_ble_eq_true rfl, by rw [← hR]; exact Nat.le_of_ble_eq_true rfl⟩) ⟨fun a U g mk q => by obtain ⟨q0, q1, q2, qK, q10, q11, q12, q13⟩ := q; exact ⟨q0, q1, q2, jG.calling g mk a qK, q10, q11, q12, q13⟩, hh_67.recv (C := RX0) (T := TX0) (N := 2) hB2 rfl (by decide) hg_59 hK, fun U hU hW => ⟨rfl, hU, hh_67.2.1, hG.step hW hU hh_67.1, hg_59, hgq_55_0, (hh_67.2.2.1.sub (L1 := [(r3, 2, 1, .int qc_55), (r3, 2, 0, .ref qa_55)]) [0, 1] rfl), (by omega), (by omega), ⟨(by first | omega | rfl | assumption | fail), (by first | omega | rfl | assumption | fail), (by first | omega | rfl | assumption | fail), (by first | omega | rfl | assumption | fail), (by first | assumption | fail | omega)⟩⟩⟩ rfl rfl hl.1 rfl (lv_room (Nat.le_of_ble_eq_true rfl)) dX7_statement_43 ⟨by rw [hRc]; omega, by rw [hRs]; omega⟩) hh_67.1 (fun q _ h => h) (fun q h => h) (fun u_68 t_68 H_68 locs_68 ht_68 hvm_68 hr_69 hb_68 hz_68 hk_68 hS_68 => ?_)
    obtain ⟨qc_68, qa_68, m_qa_68, G_68⟩ := u_68
    rw [ht_68] at hb_68
    simp only at hb_68
    obtain ⟨⟨hb_681, hb_682, hb_683, hb_684, hb_685, hb_686⟩, hgq_68_0, hN_68, hbO_68⟩ := hb_68
    have hh_68 : jSt (dC, dI) B base G0 G_68 EX7_statement s.heap (((m_qa_55 - n_pa) / 16) + ((m_qa_68 - m_qa_55) / 16)) ((2 * (m_qa_55 - n_pa)) + (2 * (m_qa_68 - m_qa_55))) [(r3, 2, 1, .int qc_68), (r3, 2, 0, .ref qa_68), (r1, 11, 4, .ref sx_2), (r1, 11, 5, .ref sy_2)] [] [(jFs11, jSef dC dI G_55)] H_68 locs_68 := (hh_67.callG hb_681 hb_682 hb_683 hb_684 hb_685 hS_68 rfl (L1 := [(r1, 11, 4, .ref sx_2), (r1, 11, 5, .ref sy_2)]) [2, 3] rfl rfl (M1 := []) [] rfl rfl (I1 := [(jFs11, jSef dC dI G_55)]) [1] rfl rfl).more hb_686
    have hNn_68 : (jNk [0, 1, 2, 3, 4, 5, 6, 7, 8, 9, 10, 11, 12, 13, 14, 15, 16]) G0 G_68 := (hNn_55).tr hN_68
    have hg_70 := hb_682 _ _ hg_57
    have hg_71 := hb_682 _ _ hg_58
    have hg_72 := hb_682 _ _ hg_59
    have hg_73 := hb_682 _ _ hg_60
    have hg_74 := hb_682 _ _ hg_61
    have hd_75 := jSef.grow (hh_68.iv 0 rfl) hb_682 hN_68 (by decide)
    have hh_76 := hh_68.sub (L1 := [(r3, 2, 1, .int qc_68), (r3, 2, 0, .ref qa_68), (r1, 11, 4, .ref sx_2), (r1, 11, 5, .ref sy_2)]) [0, 1, 2, 3] rfl (M1 := []) [] rfl (I1 := []) [] rfl
    clear hh_68
    have hh_77 := hh_76.addI (jSef.ie hd_75)
    clear hh_76
    have hd_78 := jOw.tr (hh_67.iv 0 rfl) hh_67.2.2.2.2.1 hbO_68
    have hh_79 := hh_77.addI (jOw.ie (dC := dC) (dI := dI) (G0 := G0) (k := 2) (r := r3) (H0 := s.heap) (F := [(2, 0), (2, 1)]) (C := RX0) (T := TX0) (N := 2) rfl (by decide) hh_77.2.2.2.2.1 (hd_78))
    clear hh_77
    try simp only at hr_69
    obtain ⟨hr_69_0, hr_69_1, hr_69_2, hr_69_3, hr_69_4⟩ := hr_69
    have hh_80 := hh_79.wk (zc1 := (m_qa_68 - n_pa) / 16) (zs1 := 2 * (m_qa_68 - n_pa)) (by omega) (by omega)
    clear hh_79
    try clear hsz_68 htt_68 hrc_68 hrs_68
    try clear hb_684 hb_685
    refine lv_goto (tgt := 75) hx hb dX7_statement_46 (by decide) ?_
    have hsz_81 := hh_80.2.2.2.2.2.1
    have htt_81 := hh_80.2.2.2.2.2.2.1
    refine W.room (fun hrc_81 hrs_81 => ?_)
    refine W.widen (k := LC - s.heap.size) (n := LS - jTot s.heap) (by omega) (by omega) ?_
    rw [hQ]
    exact W.vret hx hb hr (fun t ht hW => ⟨⟨(qc_68, qa_68, m_qa_68, G_68), rfl, by (try dsimp only); exact ⟨(by first | omega | rfl | assumption | fail), (by first | omega | rfl | assumption | fail), (by first | omega | rfl | assumption | fail), (by first | omega | rfl | assumption | fail), (by first | assumption | fail | omega)⟩, ⟨hh_80.ra (by first | omega | (simp only; omega)) (by first | omega | (simp only; omega)) (M1 := [(r3, 2, 1, .int qc_68), (r3, 2, 0, .ref qa_68)]) [0, 1] rfl ht, hgq_68_0, hNn_68, by rw [ht]; exact hh_80.iv 0 rfl, by rw [ht]; exact hh_80.2.2.2.2.2.2.2.2.sub (L1 := [(jFs11, jSef dC dI G_68)]) [1] rfl⟩⟩, by rw [ht]; try exact hh_80.1.1, fun q h9 hq => by rw [ht]; try exact hh_80.1.2.1 q h9 hq⟩) hh_80.1.2.2 dX7_statement_75
set_option maxHeartbeats 4000000 in
set_option maxRecDepth 20000 in
theorem uX7_proof (l : Launch) (dC : Nat → ClassId) (dI : Nat → Nat → Nat) (ca : Nat → ClassId) (base : Nat) (B : jF) (hB : jBok B) (hAp : jAp (dC, dI)) (hB2 : ∀ n G a H, B 2 n G a H ↔ jOb (dC, dI) 2 2 (F2 n G) a H) (hB5 : ∀ n G a H, B 5 n G a H ↔ jOb (dC, dI) 5 4 (F5 n G) a H) (hB8 : ∀ n G a H, B 8 n G a H ↔ jOb (dC, dI) 8 4 (F8 n G) a H) (hB9 : ∀ n G a H, B 9 n G a H ↔ jOb (dC, dI) 9 5 (F9b n G) a H) (hB11 : ∀ n G a H, B 11 n G a H ↔ jOb (dC, dI) 11 9 (F11 n G) a H) (hB101 : ∀ n G a H, B 101 n G a H ↔ jAr (dC, dI) (ca 1) (fun j z => True) n a H) (hB102 : ∀ n G a H, B 102 n G a H ↔ jAl (dC, dI) (ca 2) n a H) (hB132 : ∀ n G a H, B 132 n G a H ↔ jAr (dC, dI) (ca 1) (fun j z => 0 ≤ z.toInt ∧ z.toInt ≤ 10) n a H) (hB196 : ∀ n G a H, B 196 n G a H ↔ jAr (dC, dI) (ca 0) (fun j z => jBf j z) n a H) (hB214 : ∀ n G a H, B 214 n G a H ↔ jAq (dC, dI) (ca 7) (jQg) n G a H) (hB280 : ∀ n G a H, B 280 n G a H ↔ jAr (dC, dI) (ca 1) (fun j z => -1 ≤ z.toInt) n a H) (hB286 : ∀ n G a H, B 286 n G a H ↔ jAr (dC, dI) (ca 1) (fun j z => (0 ≤ z.toInt ∨ z.toInt = -3)) n a H) (hB287 : ∀ n G a H, B 287 n G a H ↔ jAr (dC, dI) (ca 1) (fun j z => 0 ≤ z.toInt ∧ z.toInt ≤ 65535) n a H) (hB288 : ∀ n G a H, B 288 n G a H ↔ jAr (dC, dI) (ca 1) (fun j z => 0 ≤ z.toInt ∧ z.toInt ≤ 160) n a H) (hB313 : ∀ n G a H, B 313 n G a H ↔ jAq (dC, dI) (ca 8) (jQk 280 80) n G a H) (G0 : jT) (H0 : Heap) (r0 : Nat) (r1 : Nat) (r2 : Nat) (pc : Int32) (pa : Nat) (n_pa : Nat) (LC LS : Nat) : Met l yX7_proof (jw yX7_proof cX7_proof 6 none) ({ frames := 6, cells := LC - H0.size, slots := LS - jTot H0, locals := 194 }) (va_Pc [.ref r0, .ref r1, .ref r2] (fun U => U.heap = H0 ∧ jX B base G0 [] H0 ∧ jG dC dI ca base U ∧ jK2 dC dI ca U ∧ jK5 dC dI ca U ∧ G0 r2 = some (2, 0) ∧ G0 r1 = some (11, 0) ∧ G0 r0 = some (9, 0) ∧ G0 pa = some (196, n_pa) ∧ jP (dC, dI) G0 H0 [(r2, 2, 1, .int pc), (r2, 2, 0, .ref pa)] ∧ H0.size + (1048576 - n_pa) / 16 + 1 ≤ LC ∧ jTot H0 + 2 * (1048576 - n_pa) ≤ LS ∧ 0 ≤ pc.toInt ∧ pc.toInt ≤ n_pa ∧ 16 ≤ n_pa ∧ n_pa ≤ 1048576 ∧ jPw n_pa)) (va_Qv (S := Int32 × Nat × Nat × jT) (fun u => 0 ≤ u.1.toInt ∧ u.1.toInt ≤ u.2.2.1 ∧ n_pa ≤ u.2.2.1 ∧ u.2.2.1 ≤ 1048576 ∧ jPw u.2.2.1) (fun u t => jRa (dC, dI) B base G0 u.2.2.2 EX7_proof H0 ((u.2.2.1 - n_pa) / 16) (2 * (u.2.2.1 - n_pa)) [(r2, 2, 1, .int u.1), (r2, 2, 0, .ref u.2.1)] t.heap ∧ u.2.2.2 u.2.1 = some (196, u.2.2.1) ∧ (jNk [0, 1, 2, 3, 4, 5, 6, 7, 8, 9, 10, 11, 12, 13, 14, 15, 16]) G0 u.2.2.2 ∧ jOw (dC, dI) G0 2 r2 H0 t.heap) (jA base)) (LC - H0.size) (LS - jTot H0) (jA base) := by
  refine Met.ofW (cc := cX7_proof) (maxL := 6) (ret := none) (by decide) rfl ?_
  intro p e s m args below meth c s₁ Bd hml hv
  obtain ⟨rfl, hH0, hX, hG, hK2, hK5, hg_r2, hg_r1, hg_r0, hg_pa, hP0, hLC0, hLS0, hp0, hp1, hp2, hp3, hp4⟩ := hv
  have hK := hG.1
  have hx := Bd.exec
  have hb := Bd.bytes
  have hr := Bd.returns
  have hts := atoms_spec (ws := (jw yX7_proof cX7_proof 6 none)) Bd.pre
  have htw : ∀ w ∈ jWl, w.before _ s = true := fun w h => hts w (List.mem_cons_of_mem _ h)
  have hown : s.vm.findClass RX7 = some m.cls := findClass_of_methodNamed Bd.named
  have hlocks := Bd.notSynchronized
  obtain ⟨Q, hQ⟩ : ∃ Q, Q = MQ below (va_Qv (S := Int32 × Nat × Nat × jT) (fun u => 0 ≤ u.1.toInt ∧ u.1.toInt ≤ u.2.2.1 ∧ n_pa ≤ u.2.2.1 ∧ u.2.2.1 ≤ 1048576 ∧ jPw u.2.2.1) (fun u t => jRa (dC, dI) B base G0 u.2.2.2 EX7_proof H0 ((u.2.2.1 - n_pa) / 16) (2 * (u.2.2.1 - n_pa)) [(r2, 2, 1, .int u.1), (r2, 2, 0, .ref u.2.1)] t.heap ∧ u.2.2.2 u.2.1 = some (196, u.2.2.1) ∧ (jNk [0, 1, 2, 3, 4, 5, 6, 7, 8, 9, 10, 11, 12, 13, 14, 15, 16]) G0 u.2.2.2 ∧ jOw (dC, dI) G0 2 r2 H0 t.heap) (jA base)) ([.ref r0, .ref r1, .ref r2] : List Value).toArray s (LC - H0.size) (LS - jTot H0) (jA base) := ⟨_, rfl⟩
  rw [← hQ]
  have hl := lv_entry ([.ref r0, .ref r1, .ref r2]) (n := 6) (Nat.le_of_ble_eq_true rfl)
  rw [lg_entry_eq]
  generalize (lg_sl ([.ref r0, .ref r1, .ref r2]) ++ List.replicate (6 - (lg_sl ([.ref r0, .ref r1, .ref r2])).length) Slot.unset).toArray = ls at hl ⊢
  have hl : lv_has ls 6 [(0, .ref r0), (1, .ref r1), (2, .ref r2)] := hl
  generalize hR : (headSpec (jw yX7_proof cX7_proof 6 none) ({ frames := 6, cells := LC - H0.size, slots := LS - jTot H0, locals := 194 })).room = R
  subst hH0
  have hh : jSt (dC, dI) B base G0 G0 EX7_proof s.heap 0 0 [(r2, 2, 1, .int pc), (r2, 2, 0, .ref pa)] [] [] s.heap [] := jSt.start hX hP0 jMc.nil jIs.nil
  clear hX hP0
  have hk0 : (0 : Int32).toInt = 0 := by decide
  have hk1 : (1 : Int32).toInt = 1 := by decide
  have hk32 : (32 : Int32).toInt = 32 := by decide
  have hk34 : (34 : Int32).toInt = 34 := by decide
  have hly_5_0 := htw (u_lay RX3 TX3 0) (jWc_wsX30 _ (u_in_lay (by decide)))
  have hly_5_1 := htw (u_lay RX3 TX3 1) (jWc_wsX30 _ (u_in_lay (by decide)))
  have hly_5_2 := htw (u_lay RX3 TX3 2) (jWc_wsX30 _ (u_in_lay (by decide)))
  have hly_5_3 := htw (u_lay RX3 TX3 3) (jWc_wsX30 _ (u_in_lay (by decide)))
  have hly_9_0 := htw (u_lay RX7 TX7 0) (jWc_wsX70 _ (u_in_lay (by decide)))
  have hly_11_6 := htw (u_lay RX9 TX9 6) (jWc_wsX90 _ (u_in_lay (by decide)))
  have hly_11_8 := htw (u_lay RX9 TX9 8) (jWc_wsX90 _ (u_in_lay (by decide)))
  have hlk_25 := (htw (.fieldLink RX7 25 "ProofServer$State" "lemma" "I") (jWr_33 _ (List.mem_of_getElem? (i := 1) rfl)))
  obtain ⟨str31, rstr31, hstr310⟩ := hG.str (o := RX7) (k := 31) (tx := "null") (List.mem_of_getElem? (i := 1010) (by decide +kernel))
  have hstr31 : jStr base str31 4 s s.heap := hstr310
  obtain ⟨str39, rstr39, hstr390⟩ := hG.str (o := RX7) (k := 39) (tx := "{\"proof\":\"") (List.mem_of_getElem? (i := 1015) (by decide +kernel))
  have hstr39 : jStr base str39 10 s s.heap := hstr390
  have hlk_21 := (htw (.fieldLink RX7 21 "ProofServer$Printer" "names" "LProofServer$Names;") (jWr_9 _ (List.mem_of_getElem? (i := 10) rfl)))
  obtain ⟨str47, rstr47, hstr470⟩ := hG.str (o := RX7) (k := 47) (tx := "\",\"goals\":[") (List.mem_of_getElem? (i := 1016) (by decide +kernel))
  have hstr47 : jStr base str47 11 s s.heap := hstr470
  have hlk_49 := (htw (.fieldLink RX7 49 "ProofServer$State" "goals" "[LProofServer$Goal;") (jWr_33 _ (List.mem_of_getElem? (i := 2) rfl)))
  obtain ⟨str53, rstr53, hstr530⟩ := hG.str (o := RX7) (k := 53) (tx := ",\"") (List.mem_of_getElem? (i := 1017) (by decide +kernel))
  have hstr53 : jStr base str53 2 s s.heap := hstr530
  obtain ⟨str55, rstr55, hstr550⟩ := hG.str (o := RX7) (k := 55) (tx := "\"") (List.mem_of_getElem? (i := 1018) (by decide +kernel))
  have hstr55 : jStr base str55 1 s s.heap := hstr550
  have hlk_57 := (htw (.fieldLink RX7 57 "ProofServer$Goal" "variables" "[I") (jWr_33 _ (List.mem_of_getElem? (i := 3) rfl)))
  have hlk_66 := (htw (.fieldLink RX7 66 "ProofServer$Goal" "names" "[I") (jWr_33 _ (List.mem_of_getElem? (i := 4) rfl)))
  have hlk_68 := (htw (.fieldLink RX7 68 "ProofServer$Goal" "hypotheses" "[[I") (jWr_33 _ (List.mem_of_getElem? (i := 5) rfl)))
  obtain ⟨str72, rstr72, hstr720⟩ := hG.str (o := RX7) (k := 72) (tx := " : ") (List.mem_of_getElem? (i := 1019) (by decide +kernel))
  have hstr72 : jStr base str72 3 s s.heap := hstr720
  obtain ⟨str78, rstr78, hstr780⟩ := hG.str (o := RX7) (k := 78) (tx := ", ") (List.mem_of_getElem? (i := 979) (by decide +kernel))
  have hstr78 : jStr base str78 2 s s.heap := hstr780
  obtain ⟨str80, rstr80, hstr800⟩ := hG.str (o := RX7) (k := 80) (tx := "|- ") (List.mem_of_getElem? (i := 1020) (by decide +kernel))
  have hstr80 : jStr base str80 3 s s.heap := hstr800
  have hlk_82 := (htw (.fieldLink RX7 82 "ProofServer$Goal" "formula" "[I") (jWr_33 _ (List.mem_of_getElem? (i := 6) rfl)))
  obtain ⟨str84, rstr84, hstr840⟩ := hG.str (o := RX7) (k := 84) (tx := "]}") (List.mem_of_getElem? (i := 1021) (by decide +kernel))
  have hstr84 : jStr base str84 2 s s.heap := hstr840
  have hbs : base ≤ s.heap.size := Nat.le_of_lt (Nat.lt_of_le_of_lt (hh.ab hg_r0).1 (hh.ab hg_r0).2)
  have hRc : R.cells = LC - s.heap.size := by rw [← hR]; rfl
  have hRs : R.slots = LS - jTot s.heap := by rw [← hR]; rfl
  have hh_1 := hh.addI (jOw.ie (dC := dC) (dI := dI) (G0 := G0) (k := 2) (r := r2) (H0 := s.heap) (F := [(2, 0), (2, 1)]) (C := RX0) (T := TX0) (N := 2) rfl (by decide) hh.2.2.2.2.1 (jOw.rf))
  clear hh
  refine lv_aload_n hx hb dX7_proof_0 rfl (lv_at hl 1 rfl) ?_
  obtain ⟨v_2, hv_2, hh_3⟩ := hh_1.pin (C := RX9) (T := TX9) (N := 9) hB11 rfl (by decide) hg_r1 (i := 6) (by decide) rfl
  clear hh_1
  obtain ⟨lemma_4, rfl⟩ := hv_2
  refine j7_read hx hb hown hK (C := RX9) (T := TX9) (N := 9) rfl hly_11_6 hlk_25 (hh_3.at 0 rfl) dX7_proof_1 ?_
  refine lv_if_ge (tgt := 14) hx hb dX7_proof_4 (by decide) (fun c_5 => ?_) (fun c_5 => ?_)
  · skip
    have c_5' : lemma_4.toInt ≥ 0 := jb_ge (rfl) ((by decide)) c_5
    refine lv_aload_n hx hb dX7_proof_14 rfl (lv_at hl 2 rfl) ?_
    refine va_ldcS hx hb hown rstr39 dX7_proof_15 ?_
    have hsz_6 := hh_3.2.2.2.2.2.1
    have htt_6 := hh_3.2.2.2.2.2.2.1
    refine W.room (fun hrc_6 hrs_6 => ?_)
    refine va_callv (A0 := jA base) (H0 := s.heap) (va_runV (As := [.ref str39]) (rest := []) ⟨hx, hb, hml, hown, hts⟩ (uX0_text l dC dI ca base B hB hAp hB2 hB196 G0 s.heap r2 str39 10 pc pa n_pa LC LS) (cwV 1 hts (jgV (jWr_31 _ (List.mem_of_getElem? (i := 16) rfl)) (jWr_25 _ (List.mem_of_getElem? (i := 22) rfl)) (jWr_25 _ (List.mem_of_getElem? (i := 23) rfl)) (jWr_1 _ (List.mem_of_getElem? (i := 14) rfl)) (jWr_26 _ (List.mem_of_getElem? (i := 0) rfl))) rfl rfl rfl (by decide +kernel) ⟨by rw [← hR]; exact Nat.le_of_ble_eq_true rfl, by rw [← hR]; exact Nat.le_of_ble_eq_true rfl⟩) ⟨fun a U g mk q => by obtain ⟨q0, q1, q2, qK, q10, q11, q12, q13, q14⟩ := q; exact ⟨q0, q1, q2, jG.calling g mk a qK, (q10.moved (Vm.Alike.refl U.vm)), q11, q12, q13, q14⟩, hh_3.recv (C := RX0) (T := TX0) (N := 2) hB2 rfl (by decide) hg_r2 hK, fun U hU hW => ⟨rfl, hU, hh_3.2.1, hG.step hW hU hh_3.1, (hstr39.moved hW.alike).kept hh_3.1.2.1, hg_r2, hg_pa, (hh_3.2.2.1.sub (L1 := [(r2, 2, 1, .int pc), (r2, 2, 0, .ref pa)]) [1, 2] rfl), (by omega), (by omega), ⟨(by first | omega | rfl | assumption | fail), (by first | omega | rfl | assumption | fail), (by first | omega | rfl | assumption | fail), (by first | omega | rfl | assumption | fail), (by first | assumption | fail | omega), (by first | omega | rfl | assumption | fail)⟩⟩⟩ rfl rfl hl.1 rfl (lv_room (Nat.le_of_ble_eq_true rfl)) dX7_proof_17 ⟨by rw [hRc]; omega, by rw [hRs]; omega⟩) hh_3.1 (fun q _ h => h) (fun q h => h) (fun u_6 t_6 H_6 locs_6 ht_6 hvm_6 hr_7 hb_6 hz_6 hk_6 hS_6 => ?_)
    obtain ⟨qc_6, qa_6, m_qa_6, G_6⟩ := u_6
    rw [ht_6] at hb_6
    simp only at hb_6
    obtain ⟨⟨hb_61, hb_62, hb_63, hb_64, hb_65, hb_66⟩, hgq_6_0, hN_6, hbO_6⟩ := hb_6
    have hh_6 : jSt (dC, dI) B base G0 G_6 EX7_proof s.heap (0 + ((m_qa_6 - n_pa) / 16)) (0 + (2 * (m_qa_6 - n_pa))) [(r2, 2, 1, .int qc_6), (r2, 2, 0, .ref qa_6), (r1, 11, 6, .int lemma_4)] [] [] H_6 locs_6 := (hh_3.callG hb_61 hb_62 hb_63 hb_64 hb_65 hS_6 rfl (L1 := [(r1, 11, 6, .int lemma_4)]) [0] rfl rfl (M1 := []) [] rfl rfl (I1 := []) [] rfl rfl).more hb_66
    have hNn_6 : (jNk [0, 1, 2, 3, 4, 5, 6, 7, 8, 9, 10, 11, 12, 13, 14, 15, 16]) G0 G_6 := (jNk.rf).tr hN_6
    have hg_8 := hb_62 _ _ hg_r0
    have hg_9 := hb_62 _ _ hg_r1
    have hg_10 := hb_62 _ _ hg_r2
    have hd_11 := jOw.tr (hh_3.iv 0 rfl) hh_3.2.2.2.2.1 hbO_6
    have hh_12 := hh_6.addI (jOw.ie (dC := dC) (dI := dI) (G0 := G0) (k := 2) (r := r2) (H0 := s.heap) (F := [(2, 0), (2, 1)]) (C := RX0) (T := TX0) (N := 2) rfl (by decide) hh_6.2.2.2.2.1 (hd_11))
    clear hh_6
    try simp only at hr_7
    obtain ⟨hr_7_0, hr_7_1, hr_7_2, hr_7_3, hr_7_4⟩ := hr_7
    have hh_13 := hh_12.wk (zc1 := (m_qa_6 - n_pa) / 16) (zs1 := 2 * (m_qa_6 - n_pa)) (by omega) (by omega)
    clear hh_12
    try clear hsz_6 htt_6 hrc_6 hrs_6
    try clear hb_64 hb_65
    refine lv_aload_n hx hb dX7_proof_20 rfl (lv_at hl 0 rfl) ?_
    obtain ⟨v_14, hv_14, hh_15⟩ := hh_13.pin (C := RX7) (T := TX7) (N := 5) hB9 rfl (by decide) hg_8 (i := 0) (by decide) rfl
    clear hh_13
    obtain ⟨names_16, rfl, hg_names_16⟩ := hv_14
    refine j7_read hx hb hown hK (C := RX7) (T := TX7) (N := 5) rfl hly_9_0 hlk_21 (hh_15.at 0 rfl) dX7_proof_21 ?_
    refine lv_aload_n hx hb dX7_proof_24 rfl (lv_at hl 1 rfl) ?_
    refine j7_read hx hb hown hK (C := RX9) (T := TX9) (N := 9) rfl hly_11_6 hlk_25 (hh_15.at 3 rfl) dX7_proof_25 ?_
    refine lv_iconst (v := 0) hx hb dX7_proof_28 (by decide) ?_
    refine lv_aload_n hx hb dX7_proof_29 rfl (lv_at hl 2 rfl) ?_
    have hsz_17 := hh_15.2.2.2.2.2.1
    have htt_17 := hh_15.2.2.2.2.2.2.1
    refine W.room (fun hrc_17 hrs_17 => ?_)
    refine va_callv (A0 := jA base) (H0 := s.heap) (va_runV (As := [.int lemma_4, .int 0, .ref r2]) (rest := []) ⟨hx, hb, hml, hown, hts⟩ (uX6_write l dC dI ca base B hB hAp hB2 hB8 hB102 hB132 hB196 G_6 H_6 names_16 lemma_4 0 r2 qc_6 qa_6 m_qa_6 LC LS) (cwV 3 hts (jgV (jWr_31 _ (List.mem_of_getElem? (i := 17) rfl)) (jWr_31 _ (List.mem_of_getElem? (i := 18) rfl)) (jWr_31 _ (List.mem_of_getElem? (i := 19) rfl)) (jWr_4 _ (List.mem_of_getElem? (i := 10) rfl)) (jWr_31 _ (List.mem_of_getElem? (i := 20) rfl))) rfl rfl rfl (by decide +kernel) ⟨by rw [← hR]; exact Nat.le_of_ble_eq_true rfl, by rw [← hR]; exact Nat.le_of_ble_eq_true rfl⟩) ⟨fun a U g mk q => by obtain ⟨q0, q1, q2, qK, q10, q11, q12, q13, q14⟩ := q; exact ⟨q0, q1, q2, jG.calling g mk a qK, q10, q11, q12, q13, q14⟩, hh_15.recv (C := RX6) (T := TX6) (N := 4) hB8 rfl (by decide) hg_names_16 hK, fun U hU hW => ⟨rfl, hU, hh_15.2.1, hG.step hW hU hh_15.1, hg_10, hg_names_16, hgq_6_0, (hh_15.2.2.1.sub (L1 := [(r2, 2, 1, .int qc_6), (r2, 2, 0, .ref qa_6)]) [1, 2] rfl), (by omega), (by omega), ⟨(by first | omega | rfl | assumption | fail), (by first | omega | rfl | assumption | fail), (by first | omega | rfl | assumption | fail), (by first | omega | rfl | assumption | fail), (by first | assumption | fail | omega)⟩⟩⟩ rfl rfl hl.1 rfl (lv_room (Nat.le_of_ble_eq_true rfl)) dX7_proof_30 ⟨by rw [hRc]; omega, by rw [hRs]; omega⟩) hh_15.1 (fun q _ h => h) (fun q h => h) (fun u_17 t_17 H_17 locs_17 ht_17 hvm_17 hr_18 hb_17 hz_17 hk_17 hS_17 => ?_)
    obtain ⟨qc_17, qa_17, m_qa_17, G_17⟩ := u_17
    rw [ht_17] at hb_17
    simp only at hb_17
    obtain ⟨⟨hb_171, hb_172, hb_173, hb_174, hb_175, hb_176⟩, hgq_17_0, hN_17, hbO_17⟩ := hb_17
    have hh_17 : jSt (dC, dI) B base G0 G_17 EX7_proof s.heap (((m_qa_6 - n_pa) / 16) + ((m_qa_17 - m_qa_6) / 16)) ((2 * (m_qa_6 - n_pa)) + (2 * (m_qa_17 - m_qa_6))) [(r2, 2, 1, .int qc_17), (r2, 2, 0, .ref qa_17), (r0, 9, 0, .ref names_16), (r1, 11, 6, .int lemma_4)] [] [] H_17 locs_17 := (hh_15.callG hb_171 hb_172 hb_173 hb_174 hb_175 hS_17 rfl (L1 := [(r0, 9, 0, .ref names_16), (r1, 11, 6, .int lemma_4)]) [0, 3] rfl rfl (M1 := []) [] rfl rfl (I1 := []) [] rfl rfl).more hb_176
    have hNn_17 : (jNk [0, 1, 2, 3, 4, 5, 6, 7, 8, 9, 10, 11, 12, 13, 14, 15, 16]) G0 G_17 := (hNn_6).tr hN_17
    have hg_19 := hb_172 _ _ hg_8
    have hg_20 := hb_172 _ _ hg_9
    have hg_21 := hb_172 _ _ hg_10
    have hg_22 := hb_172 _ _ hg_names_16
    have hd_23 := jOw.tr (hh_15.iv 0 rfl) hh_15.2.2.2.2.1 hbO_17
    have hh_24 := hh_17.addI (jOw.ie (dC := dC) (dI := dI) (G0 := G0) (k := 2) (r := r2) (H0 := s.heap) (F := [(2, 0), (2, 1)]) (C := RX0) (T := TX0) (N := 2) rfl (by decide) hh_17.2.2.2.2.1 (hd_23))
    clear hh_17
    try simp only at hr_18
    obtain ⟨hr_18_0, hr_18_1, hr_18_2, hr_18_3, hr_18_4⟩ := hr_18
    have hh_25 := hh_24.wk (zc1 := (m_qa_17 - n_pa) / 16) (zs1 := 2 * (m_qa_17 - n_pa)) (by omega) (by omega)
    clear hh_24
    try clear hsz_17 htt_17 hrc_17 hrs_17
    try clear hb_174 hb_175
    refine lv_aload_n hx hb dX7_proof_33 rfl (lv_at hl 2 rfl) ?_
    refine va_ldcS hx hb hown rstr47 dX7_proof_34 ?_
    have hsz_26 := hh_25.2.2.2.2.2.1
    have htt_26 := hh_25.2.2.2.2.2.2.1
    refine W.room (fun hrc_26 hrs_26 => ?_)
    refine va_callv (A0 := jA base) (H0 := s.heap) (va_runV (As := [.ref str47]) (rest := []) ⟨hx, hb, hml, hown, hts⟩ (uX0_text l dC dI ca base B hB hAp hB2 hB196 G_17 H_17 r2 str47 11 qc_17 qa_17 m_qa_17 LC LS) (cwV 1 hts (jgV (jWr_31 _ (List.mem_of_getElem? (i := 16) rfl)) (jWr_25 _ (List.mem_of_getElem? (i := 22) rfl)) (jWr_25 _ (List.mem_of_getElem? (i := 23) rfl)) (jWr_1 _ (List.mem_of_getElem? (i := 14) rfl)) (jWr_26 _ (List.mem_of_getElem? (i := 0) rfl))) rfl rfl rfl (by decide +kernel) ⟨by rw [← hR]; exact Nat.le_of_ble_eq_true rfl, by rw [← hR]; exact Nat.le_of_ble_eq_true rfl⟩) ⟨fun a U g mk q => by obtain ⟨q0, q1, q2, qK, q10, q11, q12, q13, q14⟩ := q; exact ⟨q0, q1, q2, jG.calling g mk a qK, (q10.moved (Vm.Alike.refl U.vm)), q11, q12, q13, q14⟩, hh_25.recv (C := RX0) (T := TX0) (N := 2) hB2 rfl (by decide) hg_21 hK, fun U hU hW => ⟨rfl, hU, hh_25.2.1, hG.step hW hU hh_25.1, (hstr47.moved hW.alike).kept hh_25.1.2.1, hg_21, hgq_17_0, (hh_25.2.2.1.sub (L1 := [(r2, 2, 1, .int qc_17), (r2, 2, 0, .ref qa_17)]) [0, 1] rfl), (by omega), (by omega), ⟨(by first | omega | rfl | assumption | fail), (by first | omega | rfl | assumption | fail), (by first | omega | rfl | assumption | fail), (by first | omega | rfl | assumption | fail), (by first | assumption | fail | omega), (by first | omega | rfl | assumption | fail)⟩⟩⟩ rfl rfl hl.1 rfl (lv_room (Nat.le_of_ble_eq_true rfl)) dX7_proof_36 ⟨by rw [hRc]; omega, by rw [hRs]; omega⟩) hh_25.1 (fun q _ h => h) (fun q h => h) (fun u_26 t_26 H_26 locs_26 ht_26 hvm_26 hr_27 hb_26 hz_26 hk_26 hS_26 => ?_)
    obtain ⟨qc_26, qa_26, m_qa_26, G_26⟩ := u_26
    rw [ht_26] at hb_26
    simp only at hb_26
    obtain ⟨⟨hb_261, hb_262, hb_263, hb_264, hb_265, hb_266⟩, hgq_26_0, hN_26, hbO_26⟩ := hb_26
    have hh_26 : jSt (dC, dI) B base G0 G_26 EX7_proof s.heap (((m_qa_17 - n_pa) / 16) + ((m_qa_26 - m_qa_17) / 16)) ((2 * (m_qa_17 - n_pa)) + (2 * (m_qa_26 - m_qa_17))) [(r2, 2, 1, .int qc_26), (r2, 2, 0, .ref qa_26), (r0, 9, 0, .ref names_16), (r1, 11, 6, .int lemma_4)] [] [] H_26 locs_26 := (hh_25.callG hb_261 hb_262 hb_263 hb_264 hb_265 hS_26 rfl (L1 := [(r0, 9, 0, .ref names_16), (r1, 11, 6, .int lemma_4)]) [2, 3] rfl rfl (M1 := []) [] rfl rfl (I1 := []) [] rfl rfl).more hb_266
    have hNn_26 : (jNk [0, 1, 2, 3, 4, 5, 6, 7, 8, 9, 10, 11, 12, 13, 14, 15, 16]) G0 G_26 := (hNn_17).tr hN_26
    have hg_28 := hb_262 _ _ hg_19
    have hg_29 := hb_262 _ _ hg_20
    have hg_30 := hb_262 _ _ hg_21
    have hg_31 := hb_262 _ _ hg_22
    have hd_32 := jOw.tr (hh_25.iv 0 rfl) hh_25.2.2.2.2.1 hbO_26
    have hh_33 := hh_26.addI (jOw.ie (dC := dC) (dI := dI) (G0 := G0) (k := 2) (r := r2) (H0 := s.heap) (F := [(2, 0), (2, 1)]) (C := RX0) (T := TX0) (N := 2) rfl (by decide) hh_26.2.2.2.2.1 (hd_32))
    clear hh_26
    try simp only at hr_27
    obtain ⟨hr_27_0, hr_27_1, hr_27_2, hr_27_3, hr_27_4⟩ := hr_27
    have hh_34 := hh_33.wk (zc1 := (m_qa_26 - n_pa) / 16) (zs1 := 2 * (m_qa_26 - n_pa)) (by omega) (by omega)
    clear hh_33
    try clear hsz_26 htt_26 hrc_26 hrs_26
    try clear hb_264 hb_265
    refine lv_iconst (v := 0) hx hb dX7_proof_39 (by decide) ?_
    refine lv_istore_n (lv' := [(3, .int 0), (0, .ref r0), (1, .ref r1), (2, .ref r2)]) hx hb dX7_proof_40 rfl hl (by decide) rfl (fun ls hl => ?_)
    have L41 : ∀ (N : Nat) (Gx_35 : jT) (zcx_35 : Nat) (zsx_35 : Nat) (v3_35 : Int32) (wc_35 : Int32) (wr_35 : Nat) (m_wr_35 : Nat) (H_35 : Heap) (locs_35 : List Loc), jSt (dC, dI) B base G0 Gx_35 EX7_proof s.heap zcx_35 zsx_35 [(r2, 2, 1, .int wc_35), (r2, 2, 0, .ref wr_35), (r0, 9, 0, .ref names_16), (r1, 11, 6, .int lemma_4)] [] [([(2, 0), (2, 1)], jOw (dC, dI) G0 2 r2 s.heap)] H_35 locs_35 → (jNk [0, 1, 2, 3, 4, 5, 6, 7, 8, 9, 10, 11, 12, 13, 14, 15, 16]) G0 Gx_35 → jLe G_26 Gx_35 → Gx_35 wr_35 = some (196, m_wr_35) → (0 ≤ wc_35.toInt ∧ wc_35.toInt ≤ m_wr_35 ∧ n_pa ≤ m_wr_35 ∧ m_wr_35 ≤ 1048576 ∧ jPw m_wr_35 ∧ zcx_35 ≤ (m_wr_35 - n_pa) / 16 ∧ zsx_35 ≤ 2 * (m_wr_35 - n_pa) ∧ 0 ≤ v3_35.toInt ∧ v3_35.toInt ≤ 6) → (7 - v3_35.toInt : Int) < N → ∀ ls : Array Slot, lv_has ls 6 [(0, .ref r0), (1, .ref r1), (2, .ref r2), (3, .int v3_35)] → W p l e R s m ([.ref r0, .ref r1, .ref r2] : List Value).toArray below meth c H_35 locs_35 zcx_35 zsx_35 Q (F0 m 41 ls []) := by
      intro N
      induction N with
      | zero => intro Gx_35 zcx_35 zsx_35 v3_35 wc_35 wr_35 m_wr_35 H_35 locs_35 hh_35 hN_35 hle_35 hg_wr_35 hi_35 hm; exact absurd hm (by omega)
      | succ N L41 =>
        intro Gx_35 zcx_35 zsx_35 v3_35 wc_35 wr_35 m_wr_35 H_35 locs_35 hh_35 hN_35 hle_35 hg_wr_35 hi_35 hm_35 ls hl
        have hg_36 := hle_35 _ _ hg_28
        have hg_37 := hle_35 _ _ hg_29
        have hg_38 := hle_35 _ _ hg_30
        have hg_39 := hle_35 _ _ hg_31
        obtain ⟨hi_35_0, hi_35_1, hi_35_2, hi_35_3, hi_35_4, hi_35_5, hi_35_6, hi_35_7, hi_35_8⟩ := hi_35
        refine lv_iload_n hx hb dX7_proof_41 rfl (lv_at hl 3 rfl) ?_
        refine lv_aload_n hx hb dX7_proof_42 rfl (lv_at hl 1 rfl) ?_
        obtain ⟨v_40, hv_40, hh_41⟩ := hh_35.pin (C := RX9) (T := TX9) (N := 9) hB11 rfl (by decide) hg_37 (i := 8) (by decide) rfl
        clear hh_35
        obtain ⟨goals_42, ngoals_42, rfl, hg_goals_42, hn_goals_42⟩ := hv_40
        refine j7_read hx hb hown hK (C := RX9) (T := TX9) (N := 9) rfl hly_11_8 hlk_49 (hh_41.at 0 rfl) dX7_proof_43 ?_
        refine j7_qlen hx hb hK2 hh_41 hB214 3 rfl (by decide) hg_goals_42 (by omega) dX7_proof_46 (fun z_43 hz_43 => ?_)
        refine lv_icmp_ge (tgt := 217) hx hb dX7_proof_47 (by decide) (fun c_44 => ?_) (fun c_44 => ?_)
        · skip
          have c_44' : v3_35.toInt ≥ z_43.toInt := jb_ge (rfl) (rfl) c_44
          refine lv_aload_n hx hb dX7_proof_217 rfl (lv_at hl 2 rfl) ?_
          refine va_ldcS hx hb hown rstr84 dX7_proof_218 ?_
          have hsz_45 := hh_41.2.2.2.2.2.1
          have htt_45 := hh_41.2.2.2.2.2.2.1
          refine W.room (fun hrc_45 hrs_45 => ?_)
          refine va_callv (A0 := jA base) (H0 := s.heap) (va_runV (As := [.ref str84]) (rest := []) ⟨hx, hb, hml, hown, hts⟩ (uX0_text l dC dI ca base B hB hAp hB2 hB196 Gx_35 H_35 r2 str84 2 wc_35 wr_35 m_wr_35 LC LS) (cwV 1 hts (jgV (jWr_31 _ (List.mem_of_getElem? (i := 16) rfl)) (jWr_25 _ (List.mem_of_getElem? (i := 22) rfl)) (jWr_25 _ (List.mem_of_getElem? (i := 23) rfl)) (jWr_1 _ (List.mem_of_getElem? (i := 14) rfl)) (jWr_26 _ (List.mem_of_getElem? (i := 0) rfl))) rfl rfl rfl (by decide +kernel) ⟨by rw [← hR]; exact Nat.le_of_ble_eq_true rfl, by rw [← hR]; exact Nat.le_of_ble_eq_true rfl⟩) ⟨fun a U g mk q => by obtain ⟨q0, q1, q2, qK, q10, q11, q12, q13, q14⟩ := q; exact ⟨q0, q1, q2, jG.calling g mk a qK, (q10.moved (Vm.Alike.refl U.vm)), q11, q12, q13, q14⟩, hh_41.recv (C := RX0) (T := TX0) (N := 2) hB2 rfl (by decide) hg_38 hK, fun U hU hW => ⟨rfl, hU, hh_41.2.1, hG.step hW hU hh_41.1, (hstr84.moved hW.alike).kept hh_41.1.2.1, hg_38, hg_wr_35, (hh_41.2.2.1.sub (L1 := [(r2, 2, 1, .int wc_35), (r2, 2, 0, .ref wr_35)]) [1, 2] rfl), (by omega), (by omega), ⟨(by first | omega | rfl | assumption | fail), (by first | omega | rfl | assumption | fail), (by first | omega | rfl | assumption | fail), (by first | omega | rfl | assumption | fail), (by first | assumption | fail | omega), (by first | omega | rfl | assumption | fail)⟩⟩⟩ rfl rfl hl.1 rfl (lv_room (Nat.le_of_ble_eq_true rfl)) dX7_proof_220 ⟨by rw [hRc]; omega, by rw [hRs]; omega⟩) hh_41.1 (fun q _ h => h) (fun q h => h) (fun u_45 t_45 H_45 locs_45 ht_45 hvm_45 hr_46 hb_45 hz_45 hk_45 hS_45 => ?_)
          obtain ⟨qc_45, qa_45, m_qa_45, G_45⟩ := u_45
          rw [ht_45] at hb_45
          simp only at hb_45
          obtain ⟨⟨hb_451, hb_452, hb_453, hb_454, hb_455, hb_456⟩, hgq_45_0, hN_45, hbO_45⟩ := hb_45
          have hh_45 : jSt (dC, dI) B base G0 G_45 EX7_proof s.heap (zcx_35 + ((m_qa_45 - m_wr_35) / 16)) (zsx_35 + (2 * (m_qa_45 - m_wr_35))) [(r2, 2, 1, .int qc_45), (r2, 2, 0, .ref qa_45), (r1, 11, 8, .ref goals_42), (r0, 9, 0, .ref names_16), (r1, 11, 6, .int lemma_4)] [] [] H_45 locs_45 := (hh_41.callG hb_451 hb_452 hb_453 hb_454 hb_455 hS_45 rfl (L1 := [(r1, 11, 8, .ref goals_42), (r0, 9, 0, .ref names_16), (r1, 11, 6, .int lemma_4)]) [0, 3, 4] rfl rfl (M1 := []) [] rfl rfl (I1 := []) [] rfl rfl).more hb_456
          have hNn_45 : (jNk [0, 1, 2, 3, 4, 5, 6, 7, 8, 9, 10, 11, 12, 13, 14, 15, 16]) G0 G_45 := (hN_35).tr hN_45
          have hg_47 := hb_452 _ _ hg_36
          have hg_48 := hb_452 _ _ hg_37
          have hg_49 := hb_452 _ _ hg_38
          have hg_50 := hb_452 _ _ hg_goals_42
          have hg_51 := hb_452 _ _ hg_39
          have hd_52 := jOw.tr (hh_41.iv 0 rfl) hh_41.2.2.2.2.1 hbO_45
          have hh_53 := hh_45.addI (jOw.ie (dC := dC) (dI := dI) (G0 := G0) (k := 2) (r := r2) (H0 := s.heap) (F := [(2, 0), (2, 1)]) (C := RX0) (T := TX0) (N := 2) rfl (by decide) hh_45.2.2.2.2.1 (hd_52))
          clear hh_45
          try simp only at hr_46
          obtain ⟨hr_46_0, hr_46_1, hr_46_2, hr_46_3, hr_46_4⟩ := hr_46
          have hh_54 := hh_53.wk (zc1 := (m_qa_45 - n_pa) / 16) (zs1 := 2 * (m_qa_45 - n_pa)) (by omega) (by omega)
          clear hh_53
          try clear hsz_45 htt_45 hrc_45 hrs_45
          try clear hb_454 hb_455
          have hsz_55 := hh_54.2.2.2.2.2.1
          have htt_55 := hh_54.2.2.2.2.2.2.1
          refine W.room (fun hrc_55 hrs_55 => ?_)
          refine W.widen (k := LC - s.heap.size) (n := LS - jTot s.heap) (by omega) (by omega) ?_
          rw [hQ]
          exact W.vret hx hb hr (fun t ht hW => ⟨⟨(qc_45, qa_45, m_qa_45, G_45), rfl, by (try dsimp only); exact ⟨(by first | omega | rfl | assumption | fail), (by first | omega | rfl | assumption | fail), (by first | omega | rfl | assumption | fail), (by first | omega | rfl | assumption | fail), (by first | assumption | fail | omega)⟩, ⟨hh_54.ra (by first | omega | (simp only; omega)) (by first | omega | (simp only; omega)) (M1 := [(r2, 2, 1, .int qc_45), (r2, 2, 0, .ref qa_45)]) [0, 1] rfl ht, hgq_45_0, hNn_45, by rw [ht]; exact hh_54.iv 0 rfl⟩⟩, by rw [ht]; try exact hh_54.1.1, fun q h9 hq => by rw [ht]; try exact hh_54.1.2.1 q h9 hq⟩) hh_54.1.2.2 dX7_proof_223
        · skip
          have c_44' : v3_35.toInt < z_43.toInt := jb_ge_n (rfl) (rfl) c_44
          refine lv_aload_n hx hb dX7_proof_50 rfl (lv_at hl 1 rfl) ?_
          refine j7_read hx hb hown hK (C := RX9) (T := TX9) (N := 9) rfl hly_11_8 hlk_49 (hh_41.at 0 rfl) dX7_proof_51 ?_
          refine lv_iload_n hx hb dX7_proof_54 rfl (lv_at hl 3 rfl) ?_
          refine j7_qald hx hb hK2 hh_41 hB214 3 rfl (by decide) hg_goals_42 (x := v3_35.toInt) (rfl) (by omega) dX7_proof_55 (fun o_56 ho_56 => ?_)
          obtain ⟨el_57, nel_57, rfl, hg_el_57, hm_el_57⟩ := ho_56
          simp only [va_rf]
          refine lv_astore (lv' := [(4, .ref el_57), (0, .ref r0), (1, .ref r1), (2, .ref r2), (3, .int v3_35)]) hx hb dX7_proof_56 hl (by decide) rfl (fun ls hl => ?_)
          refine lv_aload_n hx hb dX7_proof_58 rfl (lv_at hl 3 rfl) ?_
          refine lv_iload_n hx hb dX7_proof_59 rfl (lv_at hl 4 rfl) ?_
          refine lv_if_le (tgt := 68) hx hb dX7_proof_60 (by decide) (fun c_58 => ?_) (fun c_58 => ?_)
          · skip
            have c_58' : v3_35.toInt ≤ 0 := jb_le (rfl) ((by decide)) c_58
            refine va_ldcS hx hb hown rstr55 dX7_proof_68 ?_
            have hsz_59 := hh_41.2.2.2.2.2.1
            have htt_59 := hh_41.2.2.2.2.2.2.1
            refine W.room (fun hrc_59 hrs_59 => ?_)
            refine va_callv (A0 := jA base) (H0 := s.heap) (va_runV (As := [.ref str55]) (rest := []) ⟨hx, hb, hml, hown, hts⟩ (uX0_text l dC dI ca base B hB hAp hB2 hB196 Gx_35 H_35 r2 str55 1 wc_35 wr_35 m_wr_35 LC LS) (cwV 1 hts (jgV (jWr_31 _ (List.mem_of_getElem? (i := 16) rfl)) (jWr_25 _ (List.mem_of_getElem? (i := 22) rfl)) (jWr_25 _ (List.mem_of_getElem? (i := 23) rfl)) (jWr_1 _ (List.mem_of_getElem? (i := 14) rfl)) (jWr_26 _ (List.mem_of_getElem? (i := 0) rfl))) rfl rfl rfl (by decide +kernel) ⟨by rw [← hR]; exact Nat.le_of_ble_eq_true rfl, by rw [← hR]; exact Nat.le_of_ble_eq_true rfl⟩) ⟨fun a U g mk q => by obtain ⟨q0, q1, q2, qK, q10, q11, q12, q13, q14⟩ := q; exact ⟨q0, q1, q2, jG.calling g mk a qK, (q10.moved (Vm.Alike.refl U.vm)), q11, q12, q13, q14⟩, hh_41.recv (C := RX0) (T := TX0) (N := 2) hB2 rfl (by decide) hg_38 hK, fun U hU hW => ⟨rfl, hU, hh_41.2.1, hG.step hW hU hh_41.1, (hstr55.moved hW.alike).kept hh_41.1.2.1, hg_38, hg_wr_35, (hh_41.2.2.1.sub (L1 := [(r2, 2, 1, .int wc_35), (r2, 2, 0, .ref wr_35)]) [1, 2] rfl), (by omega), (by omega), ⟨(by first | omega | rfl | assumption | fail), (by first | omega | rfl | assumption | fail), (by first | omega | rfl | assumption | fail), (by first | omega | rfl | assumption | fail), (by first | assumption | fail | omega), (by first | omega | rfl | assumption | fail)⟩⟩⟩ rfl rfl hl.1 rfl (lv_room (Nat.le_of_ble_eq_true rfl)) dX7_proof_70 ⟨by rw [hRc]; omega, by rw [hRs]; omega⟩) hh_41.1 (fun q _ h => h) (fun q h => h) (fun u_59 t_59 H_59 locs_59 ht_59 hvm_59 hr_60 hb_59 hz_59 hk_59 hS_59 => ?_)
            obtain ⟨qc_59, qa_59, m_qa_59, G_59⟩ := u_59
            rw [ht_59] at hb_59
            simp only at hb_59
            obtain ⟨⟨hb_591, hb_592, hb_593, hb_594, hb_595, hb_596⟩, hgq_59_0, hN_59, hbO_59⟩ := hb_59
            have hh_59 : jSt (dC, dI) B base G0 G_59 EX7_proof s.heap (zcx_35 + ((m_qa_59 - m_wr_35) / 16)) (zsx_35 + (2 * (m_qa_59 - m_wr_35))) [(r2, 2, 1, .int qc_59), (r2, 2, 0, .ref qa_59), (r1, 11, 8, .ref goals_42), (r0, 9, 0, .ref names_16), (r1, 11, 6, .int lemma_4)] [] [] H_59 locs_59 := (hh_41.callG hb_591 hb_592 hb_593 hb_594 hb_595 hS_59 rfl (L1 := [(r1, 11, 8, .ref goals_42), (r0, 9, 0, .ref names_16), (r1, 11, 6, .int lemma_4)]) [0, 3, 4] rfl rfl (M1 := []) [] rfl rfl (I1 := []) [] rfl rfl).more hb_596
            have hNn_59 : (jNk [0, 1, 2, 3, 4, 5, 6, 7, 8, 9, 10, 11, 12, 13, 14, 15, 16]) G0 G_59 := (hN_35).tr hN_59
            have hg_61 := hb_592 _ _ hg_el_57
            have hg_62 := hb_592 _ _ hg_36
            have hg_63 := hb_592 _ _ hg_37
            have hg_64 := hb_592 _ _ hg_38
            have hg_65 := hb_592 _ _ hg_goals_42
            have hg_66 := hb_592 _ _ hg_39
            have hd_67 := jOw.tr (hh_41.iv 0 rfl) hh_41.2.2.2.2.1 hbO_59
            have hh_68 := hh_59.addI (jOw.ie (dC := dC) (dI := dI) (G0 := G0) (k := 2) (r := r2) (H0 := s.heap) (F := [(2, 0), (2, 1)]) (C := RX0) (T := TX0) (N := 2) rfl (by decide) hh_59.2.2.2.2.1 (hd_67))
            clear hh_59
            try simp only at hr_60
            obtain ⟨hr_60_0, hr_60_1, hr_60_2, hr_60_3, hr_60_4⟩ := hr_60
            have hh_69 := hh_68.wk (zc1 := (m_qa_59 - n_pa) / 16) (zs1 := 2 * (m_qa_59 - n_pa)) (by omega) (by omega)
            clear hh_68
            try clear hsz_59 htt_59 hrc_59 hrs_59
            try clear hb_594 hb_595
            refine lv_iconst (v := 0) hx hb dX7_proof_73 (by decide) ?_
            refine lv_istore (lv' := [(5, .int 0), (4, .ref el_57), (0, .ref r0), (1, .ref r1), (2, .ref r2), (3, .int v3_35)]) hx hb dX7_proof_74 hl (by decide) rfl (fun ls hl => ?_)
            have L76 : ∀ (N : Nat) (Gx_70 : jT) (zcx_70 : Nat) (zsx_70 : Nat) (v5_70 : Int32) (wc_70 : Int32) (wr_70 : Nat) (m_wr_70 : Nat) (H_70 : Heap) (locs_70 : List Loc), jSt (dC, dI) B base G0 Gx_70 EX7_proof s.heap zcx_70 zsx_70 [(r2, 2, 1, .int wc_70), (r2, 2, 0, .ref wr_70), (r1, 11, 8, .ref goals_42), (r0, 9, 0, .ref names_16), (r1, 11, 6, .int lemma_4)] [] [([(2, 0), (2, 1)], jOw (dC, dI) G0 2 r2 s.heap)] H_70 locs_70 → (jNk [0, 1, 2, 3, 4, 5, 6, 7, 8, 9, 10, 11, 12, 13, 14, 15, 16]) G0 Gx_70 → jLe G_59 Gx_70 → Gx_70 wr_70 = some (196, m_wr_70) → (0 ≤ wc_70.toInt ∧ wc_70.toInt ≤ m_wr_70 ∧ n_pa ≤ m_wr_70 ∧ m_wr_70 ≤ 1048576 ∧ jPw m_wr_70 ∧ zcx_70 ≤ (m_wr_70 - n_pa) / 16 ∧ zsx_70 ≤ 2 * (m_wr_70 - n_pa) ∧ 0 ≤ v5_70.toInt ∧ v5_70.toInt ≤ 7) → (8 - v5_70.toInt : Int) < N → ∀ ls : Array Slot, lv_has ls 6 [(0, .ref r0), (1, .ref r1), (2, .ref r2), (3, .int v3_35), (4, .ref el_57), (5, .int v5_70)] → W p l e R s m ([.ref r0, .ref r1, .ref r2] : List Value).toArray below meth c H_70 locs_70 zcx_70 zsx_70 Q (F0 m 76 ls []) := by
              intro N
              induction N with
              | zero => intro Gx_70 zcx_70 zsx_70 v5_70 wc_70 wr_70 m_wr_70 H_70 locs_70 hh_70 hN_70 hle_70 hg_wr_70 hi_70 hm; exact absurd hm (by omega)
              | succ N L76 =>
                intro Gx_70 zcx_70 zsx_70 v5_70 wc_70 wr_70 m_wr_70 H_70 locs_70 hh_70 hN_70 hle_70 hg_wr_70 hi_70 hm_70 ls hl
                have hg_71 := hle_70 _ _ hg_62
                have hg_72 := hle_70 _ _ hg_63
                have hg_73 := hle_70 _ _ hg_64
                have hg_74 := hle_70 _ _ hg_61
                have hg_75 := hle_70 _ _ hg_65
                have hg_76 := hle_70 _ _ hg_66
                obtain ⟨hi_70_0, hi_70_1, hi_70_2, hi_70_3, hi_70_4, hi_70_5, hi_70_6, hi_70_7, hi_70_8⟩ := hi_70
                refine lv_iload hx hb dX7_proof_76 (lv_at hl 5 rfl) ?_
                refine lv_aload hx hb dX7_proof_78 (lv_at hl 4 rfl) ?_
                obtain ⟨v_77, hv_77, hh_78⟩ := hh_70.pin (C := RX3) (T := TX3) (N := 4) hB5 rfl (by decide) hg_74 (i := 0) (by decide) rfl
                clear hh_70
                obtain ⟨variables_79, nvariables_79, rfl, hg_variables_79, hvavariables_79, hvbvariables_79, hvcvariables_79⟩ := hv_77
                refine j7_read hx hb hown hK (C := RX3) (T := TX3) (N := 4) rfl hly_5_0 hlk_57 (hh_78.at 0 rfl) dX7_proof_80 ?_
                refine j7_len hx hb hK hh_78 hB101 1 rfl (by decide) hg_variables_79 (by omega) dX7_proof_83 (fun z_80 hz_80 => ?_)
                refine lv_icmp_ge (tgt := 116) hx hb dX7_proof_84 (by decide) (fun c_81 => ?_) (fun c_81 => ?_)
                · skip
                  have c_81' : v5_70.toInt ≥ z_80.toInt := jb_ge (rfl) (rfl) c_81
                  refine lv_iconst (v := 0) hx hb dX7_proof_116 (by decide) ?_
                  refine lv_istore (lv' := [(5, .int 0), (0, .ref r0), (1, .ref r1), (2, .ref r2), (3, .int v3_35), (4, .ref el_57)]) hx hb dX7_proof_117 hl (by decide) rfl (fun ls hl => ?_)
                  have L119 : ∀ (N : Nat) (Gx_82 : jT) (zcx_82 : Nat) (zsx_82 : Nat) (v5_82 : Int32) (wc_82 : Int32) (wr_82 : Nat) (m_wr_82 : Nat) (H_82 : Heap) (locs_82 : List Loc), jSt (dC, dI) B base G0 Gx_82 EX7_proof s.heap zcx_82 zsx_82 [(r2, 2, 1, .int wc_82), (r2, 2, 0, .ref wr_82), (el_57, 5, 0, .ref variables_79), (r1, 11, 8, .ref goals_42), (r0, 9, 0, .ref names_16), (r1, 11, 6, .int lemma_4)] [] [([(2, 0), (2, 1)], jOw (dC, dI) G0 2 r2 s.heap)] H_82 locs_82 → (jNk [0, 1, 2, 3, 4, 5, 6, 7, 8, 9, 10, 11, 12, 13, 14, 15, 16]) G0 Gx_82 → jLe Gx_70 Gx_82 → Gx_82 wr_82 = some (196, m_wr_82) → (0 ≤ wc_82.toInt ∧ wc_82.toInt ≤ m_wr_82 ∧ n_pa ≤ m_wr_82 ∧ m_wr_82 ≤ 1048576 ∧ jPw m_wr_82 ∧ zcx_82 ≤ (m_wr_82 - n_pa) / 16 ∧ zsx_82 ≤ 2 * (m_wr_82 - n_pa) ∧ 0 ≤ v5_82.toInt ∧ v5_82.toInt ≤ 9) → (10 - v5_82.toInt : Int) < N → ∀ ls : Array Slot, lv_has ls 6 [(0, .ref r0), (1, .ref r1), (2, .ref r2), (3, .int v3_35), (4, .ref el_57), (5, .int v5_82)] → W p l e R s m ([.ref r0, .ref r1, .ref r2] : List Value).toArray below meth c H_82 locs_82 zcx_82 zsx_82 Q (F0 m 119 ls []) := by
                    intro N
                    induction N with
                    | zero => intro Gx_82 zcx_82 zsx_82 v5_82 wc_82 wr_82 m_wr_82 H_82 locs_82 hh_82 hN_82 hle_82 hg_wr_82 hi_82 hm; exact absurd hm (by omega)
                    | succ N L119 =>
                      intro Gx_82 zcx_82 zsx_82 v5_82 wc_82 wr_82 m_wr_82 H_82 locs_82 hh_82 hN_82 hle_82 hg_wr_82 hi_82 hm_82 ls hl
                      have hg_83 := hle_82 _ _ hg_71
                      have hg_84 := hle_82 _ _ hg_72
                      have hg_85 := hle_82 _ _ hg_73
                      have hg_86 := hle_82 _ _ hg_74
                      have hg_87 := hle_82 _ _ hg_variables_79
                      have hg_88 := hle_82 _ _ hg_75
                      have hg_89 := hle_82 _ _ hg_76
                      obtain ⟨hi_82_0, hi_82_1, hi_82_2, hi_82_3, hi_82_4, hi_82_5, hi_82_6, hi_82_7, hi_82_8⟩ := hi_82
                      refine lv_iload hx hb dX7_proof_119 (lv_at hl 5 rfl) ?_
                      refine lv_aload hx hb dX7_proof_121 (lv_at hl 4 rfl) ?_
                      obtain ⟨v_90, hv_90, hh_91⟩ := hh_82.pin (C := RX3) (T := TX3) (N := 4) hB5 rfl (by decide) hg_86 (i := 1) (by decide) rfl
                      clear hh_82
                      obtain ⟨names_92, rfl, hg_names_92⟩ := hv_90
                      refine j7_read hx hb hown hK (C := RX3) (T := TX3) (N := 4) rfl hly_5_1 hlk_66 (hh_91.at 0 rfl) dX7_proof_123 ?_
                      refine j7_len hx hb hK hh_91 hB101 1 rfl (by decide) hg_names_92 (by omega) dX7_proof_126 (fun z_93 hz_93 => ?_)
                      refine lv_icmp_ge (tgt := 189) hx hb dX7_proof_127 (by decide) (fun c_94 => ?_) (fun c_94 => ?_)
                      · skip
                        have c_94' : v5_82.toInt ≥ z_93.toInt := jb_ge (rfl) (rfl) c_94
                        refine lv_aload_n hx hb dX7_proof_189 rfl (lv_at hl 2 rfl) ?_
                        refine va_ldcS hx hb hown rstr80 dX7_proof_190 ?_
                        have hsz_95 := hh_91.2.2.2.2.2.1
                        have htt_95 := hh_91.2.2.2.2.2.2.1
                        refine W.room (fun hrc_95 hrs_95 => ?_)
                        refine va_callv (A0 := jA base) (H0 := s.heap) (va_runV (As := [.ref str80]) (rest := []) ⟨hx, hb, hml, hown, hts⟩ (uX0_text l dC dI ca base B hB hAp hB2 hB196 Gx_82 H_82 r2 str80 3 wc_82 wr_82 m_wr_82 LC LS) (cwV 1 hts (jgV (jWr_31 _ (List.mem_of_getElem? (i := 16) rfl)) (jWr_25 _ (List.mem_of_getElem? (i := 22) rfl)) (jWr_25 _ (List.mem_of_getElem? (i := 23) rfl)) (jWr_1 _ (List.mem_of_getElem? (i := 14) rfl)) (jWr_26 _ (List.mem_of_getElem? (i := 0) rfl))) rfl rfl rfl (by decide +kernel) ⟨by rw [← hR]; exact Nat.le_of_ble_eq_true rfl, by rw [← hR]; exact Nat.le_of_ble_eq_true rfl⟩) ⟨fun a U g mk q => by obtain ⟨q0, q1, q2, qK, q10, q11, q12, q13, q14⟩ := q; exact ⟨q0, q1, q2, jG.calling g mk a qK, (q10.moved (Vm.Alike.refl U.vm)), q11, q12, q13, q14⟩, hh_91.recv (C := RX0) (T := TX0) (N := 2) hB2 rfl (by decide) hg_85 hK, fun U hU hW => ⟨rfl, hU, hh_91.2.1, hG.step hW hU hh_91.1, (hstr80.moved hW.alike).kept hh_91.1.2.1, hg_85, hg_wr_82, (hh_91.2.2.1.sub (L1 := [(r2, 2, 1, .int wc_82), (r2, 2, 0, .ref wr_82)]) [1, 2] rfl), (by omega), (by omega), ⟨(by first | omega | rfl | assumption | fail), (by first | omega | rfl | assumption | fail), (by first | omega | rfl | assumption | fail), (by first | omega | rfl | assumption | fail), (by first | assumption | fail | omega), (by first | omega | rfl | assumption | fail)⟩⟩⟩ rfl rfl hl.1 rfl (lv_room (Nat.le_of_ble_eq_true rfl)) dX7_proof_192 ⟨by rw [hRc]; omega, by rw [hRs]; omega⟩) hh_91.1 (fun q _ h => h) (fun q h => h) (fun u_95 t_95 H_95 locs_95 ht_95 hvm_95 hr_96 hb_95 hz_95 hk_95 hS_95 => ?_)
                        obtain ⟨qc_95, qa_95, m_qa_95, G_95⟩ := u_95
                        rw [ht_95] at hb_95
                        simp only at hb_95
                        obtain ⟨⟨hb_951, hb_952, hb_953, hb_954, hb_955, hb_956⟩, hgq_95_0, hN_95, hbO_95⟩ := hb_95
                        have hh_95 : jSt (dC, dI) B base G0 G_95 EX7_proof s.heap (zcx_82 + ((m_qa_95 - m_wr_82) / 16)) (zsx_82 + (2 * (m_qa_95 - m_wr_82))) [(r2, 2, 1, .int qc_95), (r2, 2, 0, .ref qa_95), (el_57, 5, 1, .ref names_92), (el_57, 5, 0, .ref variables_79), (r1, 11, 8, .ref goals_42), (r0, 9, 0, .ref names_16), (r1, 11, 6, .int lemma_4)] [] [] H_95 locs_95 := (hh_91.callG hb_951 hb_952 hb_953 hb_954 hb_955 hS_95 rfl (L1 := [(el_57, 5, 1, .ref names_92), (el_57, 5, 0, .ref variables_79), (r1, 11, 8, .ref goals_42), (r0, 9, 0, .ref names_16), (r1, 11, 6, .int lemma_4)]) [0, 3, 4, 5, 6] rfl rfl (M1 := []) [] rfl rfl (I1 := []) [] rfl rfl).more hb_956
                        have hNn_95 : (jNk [0, 1, 2, 3, 4, 5, 6, 7, 8, 9, 10, 11, 12, 13, 14, 15, 16]) G0 G_95 := (hN_82).tr hN_95
                        have hg_97 := hb_952 _ _ hg_83
                        have hg_98 := hb_952 _ _ hg_84
                        have hg_99 := hb_952 _ _ hg_85
                        have hg_100 := hb_952 _ _ hg_86
                        have hg_101 := hb_952 _ _ hg_names_92
                        have hg_102 := hb_952 _ _ hg_87
                        have hg_103 := hb_952 _ _ hg_88
                        have hg_104 := hb_952 _ _ hg_89
                        have hd_105 := jOw.tr (hh_91.iv 0 rfl) hh_91.2.2.2.2.1 hbO_95
                        have hh_106 := hh_95.addI (jOw.ie (dC := dC) (dI := dI) (G0 := G0) (k := 2) (r := r2) (H0 := s.heap) (F := [(2, 0), (2, 1)]) (C := RX0) (T := TX0) (N := 2) rfl (by decide) hh_95.2.2.2.2.1 (hd_105))
                        clear hh_95
                        try simp only at hr_96
                        obtain ⟨hr_96_0, hr_96_1, hr_96_2, hr_96_3, hr_96_4⟩ := hr_96
                        have hh_107 := hh_106.wk (zc1 := (m_qa_95 - n_pa) / 16) (zs1 := 2 * (m_qa_95 - n_pa)) (by omega) (by omega)
                        clear hh_106
                        try clear hsz_95 htt_95 hrc_95 hrs_95
                        try clear hb_954 hb_955
                        refine lv_aload_n hx hb dX7_proof_195 rfl (lv_at hl 0 rfl) ?_
                        refine lv_aload hx hb dX7_proof_196 (lv_at hl 4 rfl) ?_
                        obtain ⟨v_108, hv_108, hh_109⟩ := hh_107.pin (C := RX3) (T := TX3) (N := 4) hB5 rfl (by decide) hg_100 (i := 3) (by decide) rfl
                        clear hh_107
                        rcases hv_108 with ⟨rfl, hcv_108⟩ | ⟨formula_110, nformula_110, rfl, hg_formula_110, hn_formula_110, hcv_108, hdv_108⟩
                        · exact absurd hcv_108 (by omega)
                        refine j7_read hx hb hown hK (C := RX3) (T := TX3) (N := 4) rfl hly_5_3 hlk_82 (hh_109.at 0 rfl) dX7_proof_198 ?_
                        refine lv_aload_n hx hb dX7_proof_201 rfl (lv_at hl 2 rfl) ?_
                        have hsz_111 := hh_109.2.2.2.2.2.1
                        have htt_111 := hh_109.2.2.2.2.2.2.1
                        refine W.room (fun hrc_111 hrs_111 => ?_)
                        refine va_callv (A0 := jA base) (H0 := s.heap) (va_runV (As := [.ref formula_110, .ref r2]) (rest := []) ⟨hx, hb, hml, hown, hts⟩ (uX7_formula l dC dI ca base B hB hAp hB2 hB8 hB9 hB102 hB132 hB196 hB280 hB286 hB287 hB288 G_95 H_95 r0 formula_110 r2 nformula_110 qc_95 qa_95 m_qa_95 LC LS) (cwV 2 hts (jgV (jWr_31 _ (List.mem_of_getElem? (i := 3) rfl)) (jWr_31 _ (List.mem_of_getElem? (i := 4) rfl)) (jWr_31 _ (List.mem_of_getElem? (i := 5) rfl)) (jWr_2 _ (List.mem_of_getElem? (i := 8) rfl)) (jWr_31 _ (List.mem_of_getElem? (i := 6) rfl))) rfl rfl rfl (by decide +kernel) ⟨by rw [← hR]; exact Nat.le_of_ble_eq_true rfl, by rw [← hR]; exact Nat.le_of_ble_eq_true rfl⟩) ⟨fun a U g mk q => by obtain ⟨q0, q1, q2, qK, q10, q11, q12, q13, q14, q15⟩ := q; exact ⟨q0, q1, q2, jG.calling g mk a qK, q10, q11, q12, q13, q14, q15⟩, hh_109.recv (C := RX7) (T := TX7) (N := 5) hB9 rfl (by decide) hg_97 hK, fun U hU hW => ⟨rfl, hU, hh_109.2.1, hG.step hW hU hh_109.1, hg_99, hg_formula_110, hg_97, hgq_95_0, (hh_109.2.2.1.sub (L1 := [(r2, 2, 1, .int qc_95), (r2, 2, 0, .ref qa_95)]) [1, 2] rfl), (by omega), (by omega), ⟨(by first | omega | rfl | assumption | fail), (by first | omega | rfl | assumption | fail), (by first | omega | rfl | assumption | fail), (by first | omega | rfl | assumption | fail), (by first | assumption | fail | omega), (by first | omega | rfl | assumption | fail)⟩⟩⟩ rfl rfl hl.1 rfl (lv_room (Nat.le_of_ble_eq_true rfl)) dX7_proof_202 ⟨by rw [hRc]; omega, by rw [hRs]; omega⟩) hh_109.1 (fun q _ h => h) (fun q h => h) (fun u_111 t_111 H_111 locs_111 ht_111 hvm_111 hr_112 hb_111 hz_111 hk_111 hS_111 => ?_)
                        obtain ⟨qc_111, qa_111, m_qa_111, G_111⟩ := u_111
                        rw [ht_111] at hb_111
                        simp only at hb_111
                        obtain ⟨⟨hb_1111, hb_1112, hb_1113, hb_1114, hb_1115, hb_1116⟩, hgq_111_0, hN_111, hbO_111⟩ := hb_111
                        have hh_111 : jSt (dC, dI) B base G0 G_111 EX7_proof s.heap (((m_qa_95 - n_pa) / 16) + ((m_qa_111 - m_qa_95) / 16)) ((2 * (m_qa_95 - n_pa)) + (2 * (m_qa_111 - m_qa_95))) [(r2, 2, 1, .int qc_111), (r2, 2, 0, .ref qa_111), (el_57, 5, 3, .ref formula_110), (el_57, 5, 1, .ref names_92), (el_57, 5, 0, .ref variables_79), (r1, 11, 8, .ref goals_42), (r0, 9, 0, .ref names_16), (r1, 11, 6, .int lemma_4)] [] [] H_111 locs_111 := (hh_109.callG hb_1111 hb_1112 hb_1113 hb_1114 hb_1115 hS_111 rfl (L1 := [(el_57, 5, 3, .ref formula_110), (el_57, 5, 1, .ref names_92), (el_57, 5, 0, .ref variables_79), (r1, 11, 8, .ref goals_42), (r0, 9, 0, .ref names_16), (r1, 11, 6, .int lemma_4)]) [0, 3, 4, 5, 6, 7] rfl rfl (M1 := []) [] rfl rfl (I1 := []) [] rfl rfl).more hb_1116
                        have hNn_111 : (jNk [0, 1, 2, 3, 4, 5, 6, 7, 8, 9, 10, 11, 12, 13, 14, 15, 16]) G0 G_111 := (hNn_95).tr hN_111
                        have hg_113 := hb_1112 _ _ hg_97
                        have hg_114 := hb_1112 _ _ hg_98
                        have hg_115 := hb_1112 _ _ hg_99
                        have hg_116 := hb_1112 _ _ hg_100
                        have hg_117 := hb_1112 _ _ hg_formula_110
                        have hg_118 := hb_1112 _ _ hg_101
                        have hg_119 := hb_1112 _ _ hg_102
                        have hg_120 := hb_1112 _ _ hg_103
                        have hg_121 := hb_1112 _ _ hg_104
                        have hd_122 := jOw.tr (hh_109.iv 0 rfl) hh_109.2.2.2.2.1 hbO_111
                        have hh_123 := hh_111.addI (jOw.ie (dC := dC) (dI := dI) (G0 := G0) (k := 2) (r := r2) (H0 := s.heap) (F := [(2, 0), (2, 1)]) (C := RX0) (T := TX0) (N := 2) rfl (by decide) hh_111.2.2.2.2.1 (hd_122))
                        clear hh_111
                        try simp only at hr_112
                        obtain ⟨hr_112_0, hr_112_1, hr_112_2, hr_112_3, hr_112_4⟩ := hr_112
                        have hh_124 := hh_123.wk (zc1 := (m_qa_111 - n_pa) / 16) (zs1 := 2 * (m_qa_111 - n_pa)) (by omega) (by omega)
                        clear hh_123
                        try clear hsz_111 htt_111 hrc_111 hrs_111
                        try clear hb_1114 hb_1115
                        refine lv_aload_n hx hb dX7_proof_205 rfl (lv_at hl 2 rfl) ?_
                        refine lv_bipush (v := 34) hx hb dX7_proof_206 (by decide) ?_
                        have hsz_125 := hh_124.2.2.2.2.2.1
                        have htt_125 := hh_124.2.2.2.2.2.2.1
                        refine W.room (fun hrc_125 hrs_125 => ?_)
                        refine va_callv (A0 := jA base) (H0 := s.heap) (va_runV (As := [.int 34]) (rest := []) ⟨hx, hb, hml, hown, hts⟩ (uX0_put l dC dI ca base B hB hAp hB2 hB196 G_111 H_111 r2 34 qc_111 qa_111 m_qa_111 LC LS) (cwV 1 hts (jgV (jWr_31 _ (List.mem_of_getElem? (i := 2) rfl)) (jWr_16 _ (List.mem_of_getElem? (i := 0) rfl)) (jWr_16 _ (List.mem_of_getElem? (i := 1) rfl)) (jWr_1 _ (List.mem_of_getElem? (i := 14) rfl)) (jWr_16 _ (List.mem_of_getElem? (i := 2) rfl))) rfl rfl rfl (by decide +kernel) ⟨by rw [← hR]; exact Nat.le_of_ble_eq_true rfl, by rw [← hR]; exact Nat.le_of_ble_eq_true rfl⟩) ⟨fun a U g mk q => by obtain ⟨q0, q1, q2, qK, q10, q11, q12, q13⟩ := q; exact ⟨q0, q1, q2, jG.calling g mk a qK, q10, q11, q12, q13⟩, hh_124.recv (C := RX0) (T := TX0) (N := 2) hB2 rfl (by decide) hg_115 hK, fun U hU hW => ⟨rfl, hU, hh_124.2.1, hG.step hW hU hh_124.1, hg_115, hgq_111_0, (hh_124.2.2.1.sub (L1 := [(r2, 2, 1, .int qc_111), (r2, 2, 0, .ref qa_111)]) [0, 1] rfl), (by omega), (by omega), ⟨(by first | omega | rfl | assumption | fail), (by first | omega | rfl | assumption | fail), (by first | omega | rfl | assumption | fail), (by first | omega | rfl | assumption | fail), (by first | assumption | fail | omega)⟩⟩⟩ rfl rfl hl.1 rfl (lv_room (Nat.le_of_ble_eq_true rfl)) dX7_proof_208 ⟨by rw [hRc]; omega, by rw [hRs]; omega⟩) hh_124.1 (fun q _ h => h) (fun q h => h) (fun u_125 t_125 H_125 locs_125 ht_125 hvm_125 hr_126 hb_125 hz_125 hk_125 hS_125 => ?_)
                        obtain ⟨qc_125, qa_125, m_qa_125, G_125⟩ := u_125
                        rw [ht_125] at hb_125
                        simp only at hb_125
                        obtain ⟨⟨hb_1251, hb_1252, hb_1253, hb_1254, hb_1255, hb_1256⟩, hgq_125_0, hN_125, hbO_125⟩ := hb_125
                        have hh_125 : jSt (dC, dI) B base G0 G_125 EX7_proof s.heap (((m_qa_111 - n_pa) / 16) + ((m_qa_125 - m_qa_111) / 16)) ((2 * (m_qa_111 - n_pa)) + (2 * (m_qa_125 - m_qa_111))) [(r2, 2, 1, .int qc_125), (r2, 2, 0, .ref qa_125), (el_57, 5, 3, .ref formula_110), (el_57, 5, 1, .ref names_92), (el_57, 5, 0, .ref variables_79), (r1, 11, 8, .ref goals_42), (r0, 9, 0, .ref names_16), (r1, 11, 6, .int lemma_4)] [] [] H_125 locs_125 := (hh_124.callG hb_1251 hb_1252 hb_1253 hb_1254 hb_1255 hS_125 rfl (L1 := [(el_57, 5, 3, .ref formula_110), (el_57, 5, 1, .ref names_92), (el_57, 5, 0, .ref variables_79), (r1, 11, 8, .ref goals_42), (r0, 9, 0, .ref names_16), (r1, 11, 6, .int lemma_4)]) [2, 3, 4, 5, 6, 7] rfl rfl (M1 := []) [] rfl rfl (I1 := []) [] rfl rfl).more hb_1256
                        have hNn_125 : (jNk [0, 1, 2, 3, 4, 5, 6, 7, 8, 9, 10, 11, 12, 13, 14, 15, 16]) G0 G_125 := (hNn_111).tr hN_125
                        have hg_127 := hb_1252 _ _ hg_113
                        have hg_128 := hb_1252 _ _ hg_114
                        have hg_129 := hb_1252 _ _ hg_115
                        have hg_130 := hb_1252 _ _ hg_116
                        have hg_131 := hb_1252 _ _ hg_117
                        have hg_132 := hb_1252 _ _ hg_118
                        have hg_133 := hb_1252 _ _ hg_119
                        have hg_134 := hb_1252 _ _ hg_120
                        have hg_135 := hb_1252 _ _ hg_121
                        have hd_136 := jOw.tr (hh_124.iv 0 rfl) hh_124.2.2.2.2.1 hbO_125
                        have hh_137 := hh_125.addI (jOw.ie (dC := dC) (dI := dI) (G0 := G0) (k := 2) (r := r2) (H0 := s.heap) (F := [(2, 0), (2, 1)]) (C := RX0) (T := TX0) (N := 2) rfl (by decide) hh_125.2.2.2.2.1 (hd_136))
                        clear hh_125
                        try simp only at hr_126
                        obtain ⟨hr_126_0, hr_126_1, hr_126_2, hr_126_3, hr_126_4⟩ := hr_126
                        have hh_138 := hh_137.wk (zc1 := (m_qa_125 - n_pa) / 16) (zs1 := 2 * (m_qa_125 - n_pa)) (by omega) (by omega)
                        clear hh_137
                        try clear hsz_125 htt_125 hrc_125 hrs_125
                        try clear hb_1254 hb_1255
                        obtain ⟨z_139, ez_139⟩ : ∃ y : Int32, y = v3_35 + 1 := ⟨_, rfl⟩
                        refine lv_iinc (v := z_139) (lv' := [(3, .int z_139), (0, .ref r0), (1, .ref r1), (2, .ref r2), (4, .ref el_57), (5, .int v5_82)]) hx hb dX7_proof_211 hl (k := 3) rfl (by rw [ez_139]; rfl) (by decide) rfl (fun ls hl => ?_)
                        have hz_139 : z_139.toInt = v3_35.toInt + 1 := by rw [ez_139]; exact jb_iadd2 (rfl) (by decide) (by omega)
                        refine lv_goto (tgt := 41) hx hb dX7_proof_214 (by decide) ?_
                        refine W.tight (c2 := ((m_qa_125 - n_pa) / 16)) (n2 := (2 * (m_qa_125 - n_pa))) hh_138.2.2.2.2.2.1 hh_138.2.2.2.2.2.2.1 ?_
                        exact L41 G_125 ((m_qa_125 - n_pa) / 16) (2 * (m_qa_125 - n_pa)) z_139 qc_125 qa_125 m_qa_125 _ _ (hh_138.sub (L1 := [(r2, 2, 1, .int qc_125), (r2, 2, 0, .ref qa_125), (r0, 9, 0, .ref names_16), (r1, 11, 6, .int lemma_4)]) [0, 1, 6, 7] rfl (M1 := []) [] rfl (I1 := [([(2, 0), (2, 1)], jOw (dC, dI) G0 2 r2 s.heap)]) [0] rfl) (hNn_125) (((((((hle_35).tr hb_592).tr hle_70).tr hle_82).tr hb_952).tr hb_1112).tr hb_1252) hgq_125_0 (⟨(by first | omega | rfl | assumption | fail), (by first | omega | rfl | assumption | fail), (by first | omega | rfl | assumption | fail), (by first | omega | rfl | assumption | fail), (by first | assumption | fail | omega), (by first | omega | rfl | assumption | fail), (by first | omega | rfl | assumption | fail), (by first | omega | rfl | assumption | fail), (by first | omega | rfl | assumption | fail)⟩) (by omega) _ (lv_sub hl [1, 2, 3, 0] rfl)
                      · skip
                        have c_94' : v5_82.toInt < z_93.toInt := jb_ge_n (rfl) (rfl) c_94
                        refine lv_iload hx hb dX7_proof_130 (lv_at hl 5 rfl) ?_
                        refine lv_aload hx hb dX7_proof_132 (lv_at hl 4 rfl) ?_
                        obtain ⟨v_140, hv_140, hh_141⟩ := hh_91.pin (C := RX3) (T := TX3) (N := 4) hB5 rfl (by decide) hg_86 (i := 2) (by decide) rfl
                        clear hh_91
                        obtain ⟨hypotheses_142, khypotheses_142, rfl, hg_hypotheses_142, hhahypotheses_142, hhbhypotheses_142, hhchypotheses_142, hhdhypotheses_142, hhehypotheses_142⟩ := hv_140
                        obtain rfl : khypotheses_142 = 313 := hhbhypotheses_142 (by omega)
                        refine j7_read hx hb hown hK (C := RX3) (T := TX3) (N := 4) rfl hly_5_2 hlk_68 (hh_141.at 0 rfl) dX7_proof_134 ?_
                        refine j7_qlen hx hb hK5.1 hh_141 hB313 0 rfl (by decide) hg_hypotheses_142 (by omega) dX7_proof_137 (fun z_143 hz_143 => ?_)
                        refine lv_icmp_ge (tgt := 189) hx hb dX7_proof_138 (by decide) (fun c_144 => ?_) (fun c_144 => ?_)
                        · skip
                          have c_144' : v5_82.toInt ≥ z_143.toInt := jb_ge (rfl) (rfl) c_144
                          refine lv_aload_n hx hb dX7_proof_189 rfl (lv_at hl 2 rfl) ?_
                          refine va_ldcS hx hb hown rstr80 dX7_proof_190 ?_
                          have hsz_145 := hh_141.2.2.2.2.2.1
                          have htt_145 := hh_141.2.2.2.2.2.2.1
                          refine W.room (fun hrc_145 hrs_145 => ?_)
                          refine va_callv (A0 := jA base) (H0 := s.heap) (va_runV (As := [.ref str80]) (rest := []) ⟨hx, hb, hml, hown, hts⟩ (uX0_text l dC dI ca base B hB hAp hB2 hB196 Gx_82 H_82 r2 str80 3 wc_82 wr_82 m_wr_82 LC LS) (cwV 1 hts (jgV (jWr_31 _ (List.mem_of_getElem? (i := 16) rfl)) (jWr_25 _ (List.mem_of_getElem? (i := 22) rfl)) (jWr_25 _ (List.mem_of_getElem? (i := 23) rfl)) (jWr_1 _ (List.mem_of_getElem? (i := 14) rfl)) (jWr_26 _ (List.mem_of_getElem? (i := 0) rfl))) rfl rfl rfl (by decide +kernel) ⟨by rw [← hR]; exact Nat.le_of_ble_eq_true rfl, by rw [← hR]; exact Nat.le_of_ble_eq_true rfl⟩) ⟨fun a U g mk q => by obtain ⟨q0, q1, q2, qK, q10, q11, q12, q13, q14⟩ := q; exact ⟨q0, q1, q2, jG.calling g mk a qK, (q10.moved (Vm.Alike.refl U.vm)), q11, q12, q13, q14⟩, hh_141.recv (C := RX0) (T := TX0) (N := 2) hB2 rfl (by decide) hg_85 hK, fun U hU hW => ⟨rfl, hU, hh_141.2.1, hG.step hW hU hh_141.1, (hstr80.moved hW.alike).kept hh_141.1.2.1, hg_85, hg_wr_82, (hh_141.2.2.1.sub (L1 := [(r2, 2, 1, .int wc_82), (r2, 2, 0, .ref wr_82)]) [2, 3] rfl), (by omega), (by omega), ⟨(by first | omega | rfl | assumption | fail), (by first | omega | rfl | assumption | fail), (by first | omega | rfl | assumption | fail), (by first | omega | rfl | assumption | fail), (by first | assumption | fail | omega), (by first | omega | rfl | assumption | fail)⟩⟩⟩ rfl rfl hl.1 rfl (lv_room (Nat.le_of_ble_eq_true rfl)) dX7_proof_192 ⟨by rw [hRc]; omega, by rw [hRs]; omega⟩) hh_141.1 (fun q _ h => h) (fun q h => h) (fun u_145 t_145 H_145 locs_145 ht_145 hvm_145 hr_146 hb_145 hz_145 hk_145 hS_145 => ?_)
                          obtain ⟨qc_145, qa_145, m_qa_145, G_145⟩ := u_145
                          rw [ht_145] at hb_145
                          simp only at hb_145
                          obtain ⟨⟨hb_1451, hb_1452, hb_1453, hb_1454, hb_1455, hb_1456⟩, hgq_145_0, hN_145, hbO_145⟩ := hb_145
                          have hh_145 : jSt (dC, dI) B base G0 G_145 EX7_proof s.heap (zcx_82 + ((m_qa_145 - m_wr_82) / 16)) (zsx_82 + (2 * (m_qa_145 - m_wr_82))) [(r2, 2, 1, .int qc_145), (r2, 2, 0, .ref qa_145), (el_57, 5, 2, .ref hypotheses_142), (el_57, 5, 1, .ref names_92), (el_57, 5, 0, .ref variables_79), (r1, 11, 8, .ref goals_42), (r0, 9, 0, .ref names_16), (r1, 11, 6, .int lemma_4)] [] [] H_145 locs_145 := (hh_141.callG hb_1451 hb_1452 hb_1453 hb_1454 hb_1455 hS_145 rfl (L1 := [(el_57, 5, 2, .ref hypotheses_142), (el_57, 5, 1, .ref names_92), (el_57, 5, 0, .ref variables_79), (r1, 11, 8, .ref goals_42), (r0, 9, 0, .ref names_16), (r1, 11, 6, .int lemma_4)]) [0, 1, 4, 5, 6, 7] rfl rfl (M1 := []) [] rfl rfl (I1 := []) [] rfl rfl).more hb_1456
                          have hNn_145 : (jNk [0, 1, 2, 3, 4, 5, 6, 7, 8, 9, 10, 11, 12, 13, 14, 15, 16]) G0 G_145 := (hN_82).tr hN_145
                          have hg_147 := hb_1452 _ _ hg_83
                          have hg_148 := hb_1452 _ _ hg_84
                          have hg_149 := hb_1452 _ _ hg_85
                          have hg_150 := hb_1452 _ _ hg_86
                          have hg_151 := hb_1452 _ _ hg_hypotheses_142
                          have hg_152 := hb_1452 _ _ hg_names_92
                          have hg_153 := hb_1452 _ _ hg_87
                          have hg_154 := hb_1452 _ _ hg_88
                          have hg_155 := hb_1452 _ _ hg_89
                          have hd_156 := jOw.tr (hh_141.iv 0 rfl) hh_141.2.2.2.2.1 hbO_145
                          have hh_157 := hh_145.addI (jOw.ie (dC := dC) (dI := dI) (G0 := G0) (k := 2) (r := r2) (H0 := s.heap) (F := [(2, 0), (2, 1)]) (C := RX0) (T := TX0) (N := 2) rfl (by decide) hh_145.2.2.2.2.1 (hd_156))
                          clear hh_145
                          try simp only at hr_146
                          obtain ⟨hr_146_0, hr_146_1, hr_146_2, hr_146_3, hr_146_4⟩ := hr_146
                          have hh_158 := hh_157.wk (zc1 := (m_qa_145 - n_pa) / 16) (zs1 := 2 * (m_qa_145 - n_pa)) (by omega) (by omega)
                          clear hh_157
                          try clear hsz_145 htt_145 hrc_145 hrs_145
                          try clear hb_1454 hb_1455
                          refine lv_aload_n hx hb dX7_proof_195 rfl (lv_at hl 0 rfl) ?_
                          refine lv_aload hx hb dX7_proof_196 (lv_at hl 4 rfl) ?_
                          obtain ⟨v_159, hv_159, hh_160⟩ := hh_158.pin (C := RX3) (T := TX3) (N := 4) hB5 rfl (by decide) hg_150 (i := 3) (by decide) rfl
                          clear hh_158
                          rcases hv_159 with ⟨rfl, hcv_159⟩ | ⟨formula_161, nformula_161, rfl, hg_formula_161, hn_formula_161, hcv_159, hdv_159⟩
                          · exact absurd hcv_159 (by omega)
                          refine j7_read hx hb hown hK (C := RX3) (T := TX3) (N := 4) rfl hly_5_3 hlk_82 (hh_160.at 0 rfl) dX7_proof_198 ?_
                          refine lv_aload_n hx hb dX7_proof_201 rfl (lv_at hl 2 rfl) ?_
                          have hsz_162 := hh_160.2.2.2.2.2.1
                          have htt_162 := hh_160.2.2.2.2.2.2.1
                          refine W.room (fun hrc_162 hrs_162 => ?_)
                          refine va_callv (A0 := jA base) (H0 := s.heap) (va_runV (As := [.ref formula_161, .ref r2]) (rest := []) ⟨hx, hb, hml, hown, hts⟩ (uX7_formula l dC dI ca base B hB hAp hB2 hB8 hB9 hB102 hB132 hB196 hB280 hB286 hB287 hB288 G_145 H_145 r0 formula_161 r2 nformula_161 qc_145 qa_145 m_qa_145 LC LS) (cwV 2 hts (jgV (jWr_31 _ (List.mem_of_getElem? (i := 3) rfl)) (jWr_31 _ (List.mem_of_getElem? (i := 4) rfl)) (jWr_31 _ (List.mem_of_getElem? (i := 5) rfl)) (jWr_2 _ (List.mem_of_getElem? (i := 8) rfl)) (jWr_31 _ (List.mem_of_getElem? (i := 6) rfl))) rfl rfl rfl (by decide +kernel) ⟨by rw [← hR]; exact Nat.le_of_ble_eq_true rfl, by rw [← hR]; exact Nat.le_of_ble_eq_true rfl⟩) ⟨fun a U g mk q => by obtain ⟨q0, q1, q2, qK, q10, q11, q12, q13, q14, q15⟩ := q; exact ⟨q0, q1, q2, jG.calling g mk a qK, q10, q11, q12, q13, q14, q15⟩, hh_160.recv (C := RX7) (T := TX7) (N := 5) hB9 rfl (by decide) hg_147 hK, fun U hU hW => ⟨rfl, hU, hh_160.2.1, hG.step hW hU hh_160.1, hg_149, hg_formula_161, hg_147, hgq_145_0, (hh_160.2.2.1.sub (L1 := [(r2, 2, 1, .int qc_145), (r2, 2, 0, .ref qa_145)]) [1, 2] rfl), (by omega), (by omega), ⟨(by first | omega | rfl | assumption | fail), (by first | omega | rfl | assumption | fail), (by first | omega | rfl | assumption | fail), (by first | omega | rfl | assumption | fail), (by first | assumption | fail | omega), (by first | omega | rfl | assumption | fail)⟩⟩⟩ rfl rfl hl.1 rfl (lv_room (Nat.le_of_ble_eq_true rfl)) dX7_proof_202 ⟨by rw [hRc]; omega, by rw [hRs]; omega⟩) hh_160.1 (fun q _ h => h) (fun q h => h) (fun u_162 t_162 H_162 locs_162 ht_162 hvm_162 hr_163 hb_162 hz_162 hk_162 hS_162 => ?_)
                          obtain ⟨qc_162, qa_162, m_qa_162, G_162⟩ := u_162
                          rw [ht_162] at hb_162
                          simp only at hb_162
                          obtain ⟨⟨hb_1621, hb_1622, hb_1623, hb_1624, hb_1625, hb_1626⟩, hgq_162_0, hN_162, hbO_162⟩ := hb_162
                          have hh_162 : jSt (dC, dI) B base G0 G_162 EX7_proof s.heap (((m_qa_145 - n_pa) / 16) + ((m_qa_162 - m_qa_145) / 16)) ((2 * (m_qa_145 - n_pa)) + (2 * (m_qa_162 - m_qa_145))) [(r2, 2, 1, .int qc_162), (r2, 2, 0, .ref qa_162), (el_57, 5, 3, .ref formula_161), (el_57, 5, 2, .ref hypotheses_142), (el_57, 5, 1, .ref names_92), (el_57, 5, 0, .ref variables_79), (r1, 11, 8, .ref goals_42), (r0, 9, 0, .ref names_16), (r1, 11, 6, .int lemma_4)] [] [] H_162 locs_162 := (hh_160.callG hb_1621 hb_1622 hb_1623 hb_1624 hb_1625 hS_162 rfl (L1 := [(el_57, 5, 3, .ref formula_161), (el_57, 5, 2, .ref hypotheses_142), (el_57, 5, 1, .ref names_92), (el_57, 5, 0, .ref variables_79), (r1, 11, 8, .ref goals_42), (r0, 9, 0, .ref names_16), (r1, 11, 6, .int lemma_4)]) [0, 3, 4, 5, 6, 7, 8] rfl rfl (M1 := []) [] rfl rfl (I1 := []) [] rfl rfl).more hb_1626
                          have hNn_162 : (jNk [0, 1, 2, 3, 4, 5, 6, 7, 8, 9, 10, 11, 12, 13, 14, 15, 16]) G0 G_162 := (hNn_145).tr hN_162
                          have hg_164 := hb_1622 _ _ hg_147
                          have hg_165 := hb_1622 _ _ hg_148
                          have hg_166 := hb_1622 _ _ hg_149
                          have hg_167 := hb_1622 _ _ hg_150
                          have hg_168 := hb_1622 _ _ hg_formula_161
                          have hg_169 := hb_1622 _ _ hg_151
                          have hg_170 := hb_1622 _ _ hg_152
                          have hg_171 := hb_1622 _ _ hg_153
                          have hg_172 := hb_1622 _ _ hg_154
                          have hg_173 := hb_1622 _ _ hg_155
                          have hd_174 := jOw.tr (hh_160.iv 0 rfl) hh_160.2.2.2.2.1 hbO_162
                          have hh_175 := hh_162.addI (jOw.ie (dC := dC) (dI := dI) (G0 := G0) (k := 2) (r := r2) (H0 := s.heap) (F := [(2, 0), (2, 1)]) (C := RX0) (T := TX0) (N := 2) rfl (by decide) hh_162.2.2.2.2.1 (hd_174))
                          clear hh_162
                          try simp only at hr_163
                          obtain ⟨hr_163_0, hr_163_1, hr_163_2, hr_163_3, hr_163_4⟩ := hr_163
                          have hh_176 := hh_175.wk (zc1 := (m_qa_162 - n_pa) / 16) (zs1 := 2 * (m_qa_162 - n_pa)) (by omega) (by omega)
                          clear hh_175
                          try clear hsz_162 htt_162 hrc_162 hrs_162
                          try clear hb_1624 hb_1625
                          refine lv_aload_n hx hb dX7_proof_205 rfl (lv_at hl 2 rfl) ?_
                          refine lv_bipush (v := 34) hx hb dX7_proof_206 (by decide) ?_
                          have hsz_177 := hh_176.2.2.2.2.2.1
                          have htt_177 := hh_176.2.2.2.2.2.2.1
                          refine W.room (fun hrc_177 hrs_177 => ?_)
                          refine va_callv (A0 := jA base) (H0 := s.heap) (va_runV (As := [.int 34]) (rest := []) ⟨hx, hb, hml, hown, hts⟩ (uX0_put l dC dI ca base B hB hAp hB2 hB196 G_162 H_162 r2 34 qc_162 qa_162 m_qa_162 LC LS) (cwV 1 hts (jgV (jWr_31 _ (List.mem_of_getElem? (i := 2) rfl)) (jWr_16 _ (List.mem_of_getElem? (i := 0) rfl)) (jWr_16 _ (List.mem_of_getElem? (i := 1) rfl)) (jWr_1 _ (List.mem_of_getElem? (i := 14) rfl)) (jWr_16 _ (List.mem_of_getElem? (i := 2) rfl))) rfl rfl rfl (by decide +kernel) ⟨by rw [← hR]; exact Nat.le_of_ble_eq_true rfl, by rw [← hR]; exact Nat.le_of_ble_eq_true rfl⟩) ⟨fun a U g mk q => by obtain ⟨q0, q1, q2, qK, q10, q11, q12, q13⟩ := q; exact ⟨q0, q1, q2, jG.calling g mk a qK, q10, q11, q12, q13⟩, hh_176.recv (C := RX0) (T := TX0) (N := 2) hB2 rfl (by decide) hg_166 hK, fun U hU hW => ⟨rfl, hU, hh_176.2.1, hG.step hW hU hh_176.1, hg_166, hgq_162_0, (hh_176.2.2.1.sub (L1 := [(r2, 2, 1, .int qc_162), (r2, 2, 0, .ref qa_162)]) [0, 1] rfl), (by omega), (by omega), ⟨(by first | omega | rfl | assumption | fail), (by first | omega | rfl | assumption | fail), (by first | omega | rfl | assumption | fail), (by first | omega | rfl | assumption | fail), (by first | assumption | fail | omega)⟩⟩⟩ rfl rfl hl.1 rfl (lv_room (Nat.le_of_ble_eq_true rfl)) dX7_proof_208 ⟨by rw [hRc]; omega, by rw [hRs]; omega⟩) hh_176.1 (fun q _ h => h) (fun q h => h) (fun u_177 t_177 H_177 locs_177 ht_177 hvm_177 hr_178 hb_177 hz_177 hk_177 hS_177 => ?_)
                          obtain ⟨qc_177, qa_177, m_qa_177, G_177⟩ := u_177
                          rw [ht_177] at hb_177
                          simp only at hb_177
                          obtain ⟨⟨hb_1771, hb_1772, hb_1773, hb_1774, hb_1775, hb_1776⟩, hgq_177_0, hN_177, hbO_177⟩ := hb_177
                          have hh_177 : jSt (dC, dI) B base G0 G_177 EX7_proof s.heap (((m_qa_162 - n_pa) / 16) + ((m_qa_177 - m_qa_162) / 16)) ((2 * (m_qa_162 - n_pa)) + (2 * (m_qa_177 - m_qa_162))) [(r2, 2, 1, .int qc_177), (r2, 2, 0, .ref qa_177), (el_57, 5, 3, .ref formula_161), (el_57, 5, 2, .ref hypotheses_142), (el_57, 5, 1, .ref names_92), (el_57, 5, 0, .ref variables_79), (r1, 11, 8, .ref goals_42), (r0, 9, 0, .ref names_16), (r1, 11, 6, .int lemma_4)] [] [] H_177 locs_177 := (hh_176.callG hb_1771 hb_1772 hb_1773 hb_1774 hb_1775 hS_177 rfl (L1 := [(el_57, 5, 3, .ref formula_161), (el_57, 5, 2, .ref hypotheses_142), (el_57, 5, 1, .ref names_92), (el_57, 5, 0, .ref variables_79), (r1, 11, 8, .ref goals_42), (r0, 9, 0, .ref names_16), (r1, 11, 6, .int lemma_4)]) [2, 3, 4, 5, 6, 7, 8] rfl rfl (M1 := []) [] rfl rfl (I1 := []) [] rfl rfl).more hb_1776
                          have hNn_177 : (jNk [0, 1, 2, 3, 4, 5, 6, 7, 8, 9, 10, 11, 12, 13, 14, 15, 16]) G0 G_177 := (hNn_162).tr hN_177
                          have hg_179 := hb_1772 _ _ hg_164
                          have hg_180 := hb_1772 _ _ hg_165
                          have hg_181 := hb_1772 _ _ hg_166
                          have hg_182 := hb_1772 _ _ hg_167
                          have hg_183 := hb_1772 _ _ hg_168
                          have hg_184 := hb_1772 _ _ hg_169
                          have hg_185 := hb_1772 _ _ hg_170
                          have hg_186 := hb_1772 _ _ hg_171
                          have hg_187 := hb_1772 _ _ hg_172
                          have hg_188 := hb_1772 _ _ hg_173
                          have hd_189 := jOw.tr (hh_176.iv 0 rfl) hh_176.2.2.2.2.1 hbO_177
                          have hh_190 := hh_177.addI (jOw.ie (dC := dC) (dI := dI) (G0 := G0) (k := 2) (r := r2) (H0 := s.heap) (F := [(2, 0), (2, 1)]) (C := RX0) (T := TX0) (N := 2) rfl (by decide) hh_177.2.2.2.2.1 (hd_189))
                          clear hh_177
                          try simp only at hr_178
                          obtain ⟨hr_178_0, hr_178_1, hr_178_2, hr_178_3, hr_178_4⟩ := hr_178
                          have hh_191 := hh_190.wk (zc1 := (m_qa_177 - n_pa) / 16) (zs1 := 2 * (m_qa_177 - n_pa)) (by omega) (by omega)
                          clear hh_190
                          try clear hsz_177 htt_177 hrc_177 hrs_177
                          try clear hb_1774 hb_1775
                          obtain ⟨z_192, ez_192⟩ : ∃ y : Int32, y = v3_35 + 1 := ⟨_, rfl⟩
                          refine lv_iinc (v := z_192) (lv' := [(3, .int z_192), (0, .ref r0), (1, .ref r1), (2, .ref r2), (4, .ref el_57), (5, .int v5_82)]) hx hb dX7_proof_211 hl (k := 3) rfl (by rw [ez_192]; rfl) (by decide) rfl (fun ls hl => ?_)
                          have hz_192 : z_192.toInt = v3_35.toInt + 1 := by rw [ez_192]; exact jb_iadd2 (rfl) (by decide) (by omega)
                          refine lv_goto (tgt := 41) hx hb dX7_proof_214 (by decide) ?_
                          refine W.tight (c2 := ((m_qa_177 - n_pa) / 16)) (n2 := (2 * (m_qa_177 - n_pa))) hh_191.2.2.2.2.2.1 hh_191.2.2.2.2.2.2.1 ?_
                          exact L41 G_177 ((m_qa_177 - n_pa) / 16) (2 * (m_qa_177 - n_pa)) z_192 qc_177 qa_177 m_qa_177 _ _ (hh_191.sub (L1 := [(r2, 2, 1, .int qc_177), (r2, 2, 0, .ref qa_177), (r0, 9, 0, .ref names_16), (r1, 11, 6, .int lemma_4)]) [0, 1, 7, 8] rfl (M1 := []) [] rfl (I1 := [([(2, 0), (2, 1)], jOw (dC, dI) G0 2 r2 s.heap)]) [0] rfl) (hNn_177) (((((((hle_35).tr hb_592).tr hle_70).tr hle_82).tr hb_1452).tr hb_1622).tr hb_1772) hgq_177_0 (⟨(by first | omega | rfl | assumption | fail), (by first | omega | rfl | assumption | fail), (by first | omega | rfl | assumption | fail), (by first | omega | rfl | assumption | fail), (by first | assumption | fail | omega), (by first | omega | rfl | assumption | fail), (by first | omega | rfl | assumption | fail), (by first | omega | rfl | assumption | fail), (by first | omega | rfl | assumption | fail)⟩) (by omega) _ (lv_sub hl [1, 2, 3, 0] rfl)
                        · skip
                          have c_144' : v5_82.toInt < z_143.toInt := jb_ge_n (rfl) (rfl) c_144
                          refine lv_aload_n hx hb dX7_proof_141 rfl (lv_at hl 0 rfl) ?_
                          refine j7_read hx hb hown hK (C := RX7) (T := TX7) (N := 5) rfl hly_9_0 hlk_21 (hh_141.at 6 rfl) dX7_proof_142 ?_
                          refine lv_aload hx hb dX7_proof_145 (lv_at hl 4 rfl) ?_
                          refine j7_read hx hb hown hK (C := RX3) (T := TX3) (N := 4) rfl hly_5_1 hlk_66 (hh_141.at 1 rfl) dX7_proof_147 ?_
                          refine lv_iload hx hb dX7_proof_150 (lv_at hl 5 rfl) ?_
                          refine j7_iald hx hb hK hh_141 hB101 1 rfl (by decide) hg_names_92 (x := v5_82.toInt) (rfl) (by omega) dX7_proof_152 (fun z_193 (hz_193 : True) => ?_)
                          refine lv_iconst (v := 0) hx hb dX7_proof_153 (by decide) ?_
                          refine lv_aload_n hx hb dX7_proof_154 rfl (lv_at hl 2 rfl) ?_
                          have hsz_194 := hh_141.2.2.2.2.2.1
                          have htt_194 := hh_141.2.2.2.2.2.2.1
                          refine W.room (fun hrc_194 hrs_194 => ?_)
                          refine va_callv (A0 := jA base) (H0 := s.heap) (va_runV (As := [.int z_193, .int 0, .ref r2]) (rest := []) ⟨hx, hb, hml, hown, hts⟩ (uX6_write l dC dI ca base B hB hAp hB2 hB8 hB102 hB132 hB196 Gx_82 H_82 names_16 z_193 0 r2 wc_82 wr_82 m_wr_82 LC LS) (cwV 3 hts (jgV (jWr_31 _ (List.mem_of_getElem? (i := 17) rfl)) (jWr_31 _ (List.mem_of_getElem? (i := 18) rfl)) (jWr_31 _ (List.mem_of_getElem? (i := 19) rfl)) (jWr_4 _ (List.mem_of_getElem? (i := 10) rfl)) (jWr_31 _ (List.mem_of_getElem? (i := 20) rfl))) rfl rfl rfl (by decide +kernel) ⟨by rw [← hR]; exact Nat.le_of_ble_eq_true rfl, by rw [← hR]; exact Nat.le_of_ble_eq_true rfl⟩) ⟨fun a U g mk q => by obtain ⟨q0, q1, q2, qK, q10, q11, q12, q13, q14⟩ := q; exact ⟨q0, q1, q2, jG.calling g mk a qK, q10, q11, q12, q13, q14⟩, hh_141.recv (C := RX6) (T := TX6) (N := 4) hB8 rfl (by decide) hg_89 hK, fun U hU hW => ⟨rfl, hU, hh_141.2.1, hG.step hW hU hh_141.1, hg_85, hg_89, hg_wr_82, (hh_141.2.2.1.sub (L1 := [(r2, 2, 1, .int wc_82), (r2, 2, 0, .ref wr_82)]) [2, 3] rfl), (by omega), (by omega), ⟨(by first | omega | rfl | assumption | fail), (by first | omega | rfl | assumption | fail), (by first | omega | rfl | assumption | fail), (by first | omega | rfl | assumption | fail), (by first | assumption | fail | omega)⟩⟩⟩ rfl rfl hl.1 rfl (lv_room (Nat.le_of_ble_eq_true rfl)) dX7_proof_155 ⟨by rw [hRc]; omega, by rw [hRs]; omega⟩) hh_141.1 (fun q _ h => h) (fun q h => h) (fun u_194 t_194 H_194 locs_194 ht_194 hvm_194 hr_195 hb_194 hz_194 hk_194 hS_194 => ?_)
                          obtain ⟨qc_194, qa_194, m_qa_194, G_194⟩ := u_194
                          rw [ht_194] at hb_194
                          simp only at hb_194
                          obtain ⟨⟨hb_1941, hb_1942, hb_1943, hb_1944, hb_1945, hb_1946⟩, hgq_194_0, hN_194, hbO_194⟩ := hb_194
                          have hh_194 : jSt (dC, dI) B base G0 G_194 EX7_proof s.heap (zcx_82 + ((m_qa_194 - m_wr_82) / 16)) (zsx_82 + (2 * (m_qa_194 - m_wr_82))) [(r2, 2, 1, .int qc_194), (r2, 2, 0, .ref qa_194), (el_57, 5, 2, .ref hypotheses_142), (el_57, 5, 1, .ref names_92), (el_57, 5, 0, .ref variables_79), (r1, 11, 8, .ref goals_42), (r0, 9, 0, .ref names_16), (r1, 11, 6, .int lemma_4)] [] [] H_194 locs_194 := (hh_141.callG hb_1941 hb_1942 hb_1943 hb_1944 hb_1945 hS_194 rfl (L1 := [(el_57, 5, 2, .ref hypotheses_142), (el_57, 5, 1, .ref names_92), (el_57, 5, 0, .ref variables_79), (r1, 11, 8, .ref goals_42), (r0, 9, 0, .ref names_16), (r1, 11, 6, .int lemma_4)]) [0, 1, 4, 5, 6, 7] rfl rfl (M1 := []) [] rfl rfl (I1 := []) [] rfl rfl).more hb_1946
                          have hNn_194 : (jNk [0, 1, 2, 3, 4, 5, 6, 7, 8, 9, 10, 11, 12, 13, 14, 15, 16]) G0 G_194 := (hN_82).tr hN_194
                          have hg_196 := hb_1942 _ _ hg_83
                          have hg_197 := hb_1942 _ _ hg_84
                          have hg_198 := hb_1942 _ _ hg_85
                          have hg_199 := hb_1942 _ _ hg_86
                          have hg_200 := hb_1942 _ _ hg_hypotheses_142
                          have hg_201 := hb_1942 _ _ hg_names_92
                          have hg_202 := hb_1942 _ _ hg_87
                          have hg_203 := hb_1942 _ _ hg_88
                          have hg_204 := hb_1942 _ _ hg_89
                          have hd_205 := jOw.tr (hh_141.iv 0 rfl) hh_141.2.2.2.2.1 hbO_194
                          have hh_206 := hh_194.addI (jOw.ie (dC := dC) (dI := dI) (G0 := G0) (k := 2) (r := r2) (H0 := s.heap) (F := [(2, 0), (2, 1)]) (C := RX0) (T := TX0) (N := 2) rfl (by decide) hh_194.2.2.2.2.1 (hd_205))
                          clear hh_194
                          try simp only at hr_195
                          obtain ⟨hr_195_0, hr_195_1, hr_195_2, hr_195_3, hr_195_4⟩ := hr_195
                          have hh_207 := hh_206.wk (zc1 := (m_qa_194 - n_pa) / 16) (zs1 := 2 * (m_qa_194 - n_pa)) (by omega) (by omega)
                          clear hh_206
                          try clear hsz_194 htt_194 hrc_194 hrs_194
                          try clear hb_1944 hb_1945
                          refine lv_aload_n hx hb dX7_proof_158 rfl (lv_at hl 2 rfl) ?_
                          refine va_ldcS hx hb hown rstr72 dX7_proof_159 ?_
                          have hsz_208 := hh_207.2.2.2.2.2.1
                          have htt_208 := hh_207.2.2.2.2.2.2.1
                          refine W.room (fun hrc_208 hrs_208 => ?_)
                          refine va_callv (A0 := jA base) (H0 := s.heap) (va_runV (As := [.ref str72]) (rest := []) ⟨hx, hb, hml, hown, hts⟩ (uX0_text l dC dI ca base B hB hAp hB2 hB196 G_194 H_194 r2 str72 3 qc_194 qa_194 m_qa_194 LC LS) (cwV 1 hts (jgV (jWr_31 _ (List.mem_of_getElem? (i := 16) rfl)) (jWr_25 _ (List.mem_of_getElem? (i := 22) rfl)) (jWr_25 _ (List.mem_of_getElem? (i := 23) rfl)) (jWr_1 _ (List.mem_of_getElem? (i := 14) rfl)) (jWr_26 _ (List.mem_of_getElem? (i := 0) rfl))) rfl rfl rfl (by decide +kernel) ⟨by rw [← hR]; exact Nat.le_of_ble_eq_true rfl, by rw [← hR]; exact Nat.le_of_ble_eq_true rfl⟩) ⟨fun a U g mk q => by obtain ⟨q0, q1, q2, qK, q10, q11, q12, q13, q14⟩ := q; exact ⟨q0, q1, q2, jG.calling g mk a qK, (q10.moved (Vm.Alike.refl U.vm)), q11, q12, q13, q14⟩, hh_207.recv (C := RX0) (T := TX0) (N := 2) hB2 rfl (by decide) hg_198 hK, fun U hU hW => ⟨rfl, hU, hh_207.2.1, hG.step hW hU hh_207.1, (hstr72.moved hW.alike).kept hh_207.1.2.1, hg_198, hgq_194_0, (hh_207.2.2.1.sub (L1 := [(r2, 2, 1, .int qc_194), (r2, 2, 0, .ref qa_194)]) [0, 1] rfl), (by omega), (by omega), ⟨(by first | omega | rfl | assumption | fail), (by first | omega | rfl | assumption | fail), (by first | omega | rfl | assumption | fail), (by first | omega | rfl | assumption | fail), (by first | assumption | fail | omega), (by first | omega | rfl | assumption | fail)⟩⟩⟩ rfl rfl hl.1 rfl (lv_room (Nat.le_of_ble_eq_true rfl)) dX7_proof_161 ⟨by rw [hRc]; omega, by rw [hRs]; omega⟩) hh_207.1 (fun q _ h => h) (fun q h => h) (fun u_208 t_208 H_208 locs_208 ht_208 hvm_208 hr_209 hb_208 hz_208 hk_208 hS_208 => ?_)
                          obtain ⟨qc_208, qa_208, m_qa_208, G_208⟩ := u_208
                          rw [ht_208] at hb_208
                          simp only at hb_208
                          obtain ⟨⟨hb_2081, hb_2082, hb_2083, hb_2084, hb_2085, hb_2086⟩, hgq_208_0, hN_208, hbO_208⟩ := hb_208
                          have hh_208 : jSt (dC, dI) B base G0 G_208 EX7_proof s.heap (((m_qa_194 - n_pa) / 16) + ((m_qa_208 - m_qa_194) / 16)) ((2 * (m_qa_194 - n_pa)) + (2 * (m_qa_208 - m_qa_194))) [(r2, 2, 1, .int qc_208), (r2, 2, 0, .ref qa_208), (el_57, 5, 2, .ref hypotheses_142), (el_57, 5, 1, .ref names_92), (el_57, 5, 0, .ref variables_79), (r1, 11, 8, .ref goals_42), (r0, 9, 0, .ref names_16), (r1, 11, 6, .int lemma_4)] [] [] H_208 locs_208 := (hh_207.callG hb_2081 hb_2082 hb_2083 hb_2084 hb_2085 hS_208 rfl (L1 := [(el_57, 5, 2, .ref hypotheses_142), (el_57, 5, 1, .ref names_92), (el_57, 5, 0, .ref variables_79), (r1, 11, 8, .ref goals_42), (r0, 9, 0, .ref names_16), (r1, 11, 6, .int lemma_4)]) [2, 3, 4, 5, 6, 7] rfl rfl (M1 := []) [] rfl rfl (I1 := []) [] rfl rfl).more hb_2086
                          have hNn_208 : (jNk [0, 1, 2, 3, 4, 5, 6, 7, 8, 9, 10, 11, 12, 13, 14, 15, 16]) G0 G_208 := (hNn_194).tr hN_208
                          have hg_210 := hb_2082 _ _ hg_196
                          have hg_211 := hb_2082 _ _ hg_197
                          have hg_212 := hb_2082 _ _ hg_198
                          have hg_213 := hb_2082 _ _ hg_199
                          have hg_214 := hb_2082 _ _ hg_200
                          have hg_215 := hb_2082 _ _ hg_201
                          have hg_216 := hb_2082 _ _ hg_202
                          have hg_217 := hb_2082 _ _ hg_203
                          have hg_218 := hb_2082 _ _ hg_204
                          have hd_219 := jOw.tr (hh_207.iv 0 rfl) hh_207.2.2.2.2.1 hbO_208
                          have hh_220 := hh_208.addI (jOw.ie (dC := dC) (dI := dI) (G0 := G0) (k := 2) (r := r2) (H0 := s.heap) (F := [(2, 0), (2, 1)]) (C := RX0) (T := TX0) (N := 2) rfl (by decide) hh_208.2.2.2.2.1 (hd_219))
                          clear hh_208
                          try simp only at hr_209
                          obtain ⟨hr_209_0, hr_209_1, hr_209_2, hr_209_3, hr_209_4⟩ := hr_209
                          have hh_221 := hh_220.wk (zc1 := (m_qa_208 - n_pa) / 16) (zs1 := 2 * (m_qa_208 - n_pa)) (by omega) (by omega)
                          clear hh_220
                          try clear hsz_208 htt_208 hrc_208 hrs_208
                          try clear hb_2084 hb_2085
                          refine lv_aload_n hx hb dX7_proof_164 rfl (lv_at hl 0 rfl) ?_
                          refine lv_aload hx hb dX7_proof_165 (lv_at hl 4 rfl) ?_
                          refine j7_read hx hb hown hK (C := RX3) (T := TX3) (N := 4) rfl hly_5_2 hlk_68 (hh_221.at 2 rfl) dX7_proof_167 ?_
                          refine lv_iload hx hb dX7_proof_170 (lv_at hl 5 rfl) ?_
                          refine j7_qaldA hx hb hK5 hh_221 hB313 (by decide) hg_214 (x := v5_82.toInt) (rfl) (by omega) dX7_proof_172 (fun o_222 ho_222 => ?_)
                          obtain ⟨el_223, nel_223, rfl, hg_el_223, hn_el_223⟩ := ho_222
                          simp only [va_rf]
                          refine lv_aload_n hx hb dX7_proof_173 rfl (lv_at hl 2 rfl) ?_
                          have hsz_224 := hh_221.2.2.2.2.2.1
                          have htt_224 := hh_221.2.2.2.2.2.2.1
                          refine W.room (fun hrc_224 hrs_224 => ?_)
                          refine va_callv (A0 := jA base) (H0 := s.heap) (va_runV (As := [.ref el_223, .ref r2]) (rest := []) ⟨hx, hb, hml, hown, hts⟩ (uX7_formula l dC dI ca base B hB hAp hB2 hB8 hB9 hB102 hB132 hB196 hB280 hB286 hB287 hB288 G_208 H_208 r0 el_223 r2 nel_223 qc_208 qa_208 m_qa_208 LC LS) (cwV 2 hts (jgV (jWr_31 _ (List.mem_of_getElem? (i := 3) rfl)) (jWr_31 _ (List.mem_of_getElem? (i := 4) rfl)) (jWr_31 _ (List.mem_of_getElem? (i := 5) rfl)) (jWr_2 _ (List.mem_of_getElem? (i := 8) rfl)) (jWr_31 _ (List.mem_of_getElem? (i := 6) rfl))) rfl rfl rfl (by decide +kernel) ⟨by rw [← hR]; exact Nat.le_of_ble_eq_true rfl, by rw [← hR]; exact Nat.le_of_ble_eq_true rfl⟩) ⟨fun a U g mk q => by obtain ⟨q0, q1, q2, qK, q10, q11, q12, q13, q14, q15⟩ := q; exact ⟨q0, q1, q2, jG.calling g mk a qK, q10, q11, q12, q13, q14, q15⟩, hh_221.recv (C := RX7) (T := TX7) (N := 5) hB9 rfl (by decide) hg_210 hK, fun U hU hW => ⟨rfl, hU, hh_221.2.1, hG.step hW hU hh_221.1, hg_212, hg_el_223, hg_210, hgq_208_0, (hh_221.2.2.1.sub (L1 := [(r2, 2, 1, .int qc_208), (r2, 2, 0, .ref qa_208)]) [0, 1] rfl), (by omega), (by omega), ⟨(by first | omega | rfl | assumption | fail), (by first | omega | rfl | assumption | fail), (by first | omega | rfl | assumption | fail), (by first | omega | rfl | assumption | fail), (by first | assumption | fail | omega), (by first | omega | rfl | assumption | fail)⟩⟩⟩ rfl rfl hl.1 rfl (lv_room (Nat.le_of_ble_eq_true rfl)) dX7_proof_174 ⟨by rw [hRc]; omega, by rw [hRs]; omega⟩) hh_221.1 (fun q _ h => h) (fun q h => h) (fun u_224 t_224 H_224 locs_224 ht_224 hvm_224 hr_225 hb_224 hz_224 hk_224 hS_224 => ?_)
                          obtain ⟨qc_224, qa_224, m_qa_224, G_224⟩ := u_224
                          rw [ht_224] at hb_224
                          simp only at hb_224
                          obtain ⟨⟨hb_2241, hb_2242, hb_2243, hb_2244, hb_2245, hb_2246⟩, hgq_224_0, hN_224, hbO_224⟩ := hb_224
                          have hh_224 : jSt (dC, dI) B base G0 G_224 EX7_proof s.heap (((m_qa_208 - n_pa) / 16) + ((m_qa_224 - m_qa_208) / 16)) ((2 * (m_qa_208 - n_pa)) + (2 * (m_qa_224 - m_qa_208))) [(r2, 2, 1, .int qc_224), (r2, 2, 0, .ref qa_224), (el_57, 5, 2, .ref hypotheses_142), (el_57, 5, 1, .ref names_92), (el_57, 5, 0, .ref variables_79), (r1, 11, 8, .ref goals_42), (r0, 9, 0, .ref names_16), (r1, 11, 6, .int lemma_4)] [] [] H_224 locs_224 := (hh_221.callG hb_2241 hb_2242 hb_2243 hb_2244 hb_2245 hS_224 rfl (L1 := [(el_57, 5, 2, .ref hypotheses_142), (el_57, 5, 1, .ref names_92), (el_57, 5, 0, .ref variables_79), (r1, 11, 8, .ref goals_42), (r0, 9, 0, .ref names_16), (r1, 11, 6, .int lemma_4)]) [2, 3, 4, 5, 6, 7] rfl rfl (M1 := []) [] rfl rfl (I1 := []) [] rfl rfl).more hb_2246
                          have hNn_224 : (jNk [0, 1, 2, 3, 4, 5, 6, 7, 8, 9, 10, 11, 12, 13, 14, 15, 16]) G0 G_224 := (hNn_208).tr hN_224
                          have hg_226 := hb_2242 _ _ hg_210
                          have hg_227 := hb_2242 _ _ hg_211
                          have hg_228 := hb_2242 _ _ hg_212
                          have hg_229 := hb_2242 _ _ hg_213
                          have hg_230 := hb_2242 _ _ hg_214
                          have hg_231 := hb_2242 _ _ hg_215
                          have hg_232 := hb_2242 _ _ hg_216
                          have hg_233 := hb_2242 _ _ hg_217
                          have hg_234 := hb_2242 _ _ hg_218
                          have hd_235 := jOw.tr (hh_221.iv 0 rfl) hh_221.2.2.2.2.1 hbO_224
                          have hh_236 := hh_224.addI (jOw.ie (dC := dC) (dI := dI) (G0 := G0) (k := 2) (r := r2) (H0 := s.heap) (F := [(2, 0), (2, 1)]) (C := RX0) (T := TX0) (N := 2) rfl (by decide) hh_224.2.2.2.2.1 (hd_235))
                          clear hh_224
                          try simp only at hr_225
                          obtain ⟨hr_225_0, hr_225_1, hr_225_2, hr_225_3, hr_225_4⟩ := hr_225
                          have hh_237 := hh_236.wk (zc1 := (m_qa_224 - n_pa) / 16) (zs1 := 2 * (m_qa_224 - n_pa)) (by omega) (by omega)
                          clear hh_236
                          try clear hsz_224 htt_224 hrc_224 hrs_224
                          try clear hb_2244 hb_2245
                          refine lv_aload_n hx hb dX7_proof_177 rfl (lv_at hl 2 rfl) ?_
                          refine va_ldcS hx hb hown rstr78 dX7_proof_178 ?_
                          have hsz_238 := hh_237.2.2.2.2.2.1
                          have htt_238 := hh_237.2.2.2.2.2.2.1
                          refine W.room (fun hrc_238 hrs_238 => ?_)
                          refine va_callv (A0 := jA base) (H0 := s.heap) (va_runV (As := [.ref str78]) (rest := []) ⟨hx, hb, hml, hown, hts⟩ (uX0_text l dC dI ca base B hB hAp hB2 hB196 G_224 H_224 r2 str78 2 qc_224 qa_224 m_qa_224 LC LS) (cwV 1 hts (jgV (jWr_31 _ (List.mem_of_getElem? (i := 16) rfl)) (jWr_25 _ (List.mem_of_getElem? (i := 22) rfl)) (jWr_25 _ (List.mem_of_getElem? (i := 23) rfl)) (jWr_1 _ (List.mem_of_getElem? (i := 14) rfl)) (jWr_26 _ (List.mem_of_getElem? (i := 0) rfl))) rfl rfl rfl (by decide +kernel) ⟨by rw [← hR]; exact Nat.le_of_ble_eq_true rfl, by rw [← hR]; exact Nat.le_of_ble_eq_true rfl⟩) ⟨fun a U g mk q => by obtain ⟨q0, q1, q2, qK, q10, q11, q12, q13, q14⟩ := q; exact ⟨q0, q1, q2, jG.calling g mk a qK, (q10.moved (Vm.Alike.refl U.vm)), q11, q12, q13, q14⟩, hh_237.recv (C := RX0) (T := TX0) (N := 2) hB2 rfl (by decide) hg_228 hK, fun U hU hW => ⟨rfl, hU, hh_237.2.1, hG.step hW hU hh_237.1, (hstr78.moved hW.alike).kept hh_237.1.2.1, hg_228, hgq_224_0, (hh_237.2.2.1.sub (L1 := [(r2, 2, 1, .int qc_224), (r2, 2, 0, .ref qa_224)]) [0, 1] rfl), (by omega), (by omega), ⟨(by first | omega | rfl | assumption | fail), (by first | omega | rfl | assumption | fail), (by first | omega | rfl | assumption | fail), (by first | omega | rfl | assumption | fail), (by first | assumption | fail | omega), (by first | omega | rfl | assumption | fail)⟩⟩⟩ rfl rfl hl.1 rfl (lv_room (Nat.le_of_ble_eq_true rfl)) dX7_proof_180 ⟨by rw [hRc]; omega, by rw [hRs]; omega⟩) hh_237.1 (fun q _ h => h) (fun q h => h) (fun u_238 t_238 H_238 locs_238 ht_238 hvm_238 hr_239 hb_238 hz_238 hk_238 hS_238 => ?_)
                          obtain ⟨qc_238, qa_238, m_qa_238, G_238⟩ := u_238
                          rw [ht_238] at hb_238
                          simp only at hb_238
                          obtain ⟨⟨hb_2381, hb_2382, hb_2383, hb_2384, hb_2385, hb_2386⟩, hgq_238_0, hN_238, hbO_238⟩ := hb_238
                          have hh_238 : jSt (dC, dI) B base G0 G_238 EX7_proof s.heap (((m_qa_224 - n_pa) / 16) + ((m_qa_238 - m_qa_224) / 16)) ((2 * (m_qa_224 - n_pa)) + (2 * (m_qa_238 - m_qa_224))) [(r2, 2, 1, .int qc_238), (r2, 2, 0, .ref qa_238), (el_57, 5, 2, .ref hypotheses_142), (el_57, 5, 1, .ref names_92), (el_57, 5, 0, .ref variables_79), (r1, 11, 8, .ref goals_42), (r0, 9, 0, .ref names_16), (r1, 11, 6, .int lemma_4)] [] [] H_238 locs_238 := (hh_237.callG hb_2381 hb_2382 hb_2383 hb_2384 hb_2385 hS_238 rfl (L1 := [(el_57, 5, 2, .ref hypotheses_142), (el_57, 5, 1, .ref names_92), (el_57, 5, 0, .ref variables_79), (r1, 11, 8, .ref goals_42), (r0, 9, 0, .ref names_16), (r1, 11, 6, .int lemma_4)]) [2, 3, 4, 5, 6, 7] rfl rfl (M1 := []) [] rfl rfl (I1 := []) [] rfl rfl).more hb_2386
                          have hNn_238 : (jNk [0, 1, 2, 3, 4, 5, 6, 7, 8, 9, 10, 11, 12, 13, 14, 15, 16]) G0 G_238 := (hNn_224).tr hN_238
                          have hg_240 := hb_2382 _ _ hg_226
                          have hg_241 := hb_2382 _ _ hg_227
                          have hg_242 := hb_2382 _ _ hg_228
                          have hg_243 := hb_2382 _ _ hg_229
                          have hg_244 := hb_2382 _ _ hg_230
                          have hg_245 := hb_2382 _ _ hg_231
                          have hg_246 := hb_2382 _ _ hg_232
                          have hg_247 := hb_2382 _ _ hg_233
                          have hg_248 := hb_2382 _ _ hg_234
                          have hd_249 := jOw.tr (hh_237.iv 0 rfl) hh_237.2.2.2.2.1 hbO_238
                          have hh_250 := hh_238.addI (jOw.ie (dC := dC) (dI := dI) (G0 := G0) (k := 2) (r := r2) (H0 := s.heap) (F := [(2, 0), (2, 1)]) (C := RX0) (T := TX0) (N := 2) rfl (by decide) hh_238.2.2.2.2.1 (hd_249))
                          clear hh_238
                          try simp only at hr_239
                          obtain ⟨hr_239_0, hr_239_1, hr_239_2, hr_239_3, hr_239_4⟩ := hr_239
                          have hh_251 := hh_250.wk (zc1 := (m_qa_238 - n_pa) / 16) (zs1 := 2 * (m_qa_238 - n_pa)) (by omega) (by omega)
                          clear hh_250
                          try clear hsz_238 htt_238 hrc_238 hrs_238
                          try clear hb_2384 hb_2385
                          obtain ⟨z_252, ez_252⟩ : ∃ y : Int32, y = v5_82 + 1 := ⟨_, rfl⟩
                          refine lv_iinc (v := z_252) (lv' := [(5, .int z_252), (0, .ref r0), (1, .ref r1), (2, .ref r2), (3, .int v3_35), (4, .ref el_57)]) hx hb dX7_proof_183 hl (k := 5) rfl (by rw [ez_252]; rfl) (by decide) rfl (fun ls hl => ?_)
                          have hz_252 : z_252.toInt = v5_82.toInt + 1 := by rw [ez_252]; exact jb_iadd2 (rfl) (by decide) (by omega)
                          refine lv_goto (tgt := 119) hx hb dX7_proof_186 (by decide) ?_
                          refine W.tight (c2 := ((m_qa_238 - n_pa) / 16)) (n2 := (2 * (m_qa_238 - n_pa))) hh_251.2.2.2.2.2.1 hh_251.2.2.2.2.2.2.1 ?_
                          exact L119 G_238 ((m_qa_238 - n_pa) / 16) (2 * (m_qa_238 - n_pa)) z_252 qc_238 qa_238 m_qa_238 _ _ (hh_251.sub (L1 := [(r2, 2, 1, .int qc_238), (r2, 2, 0, .ref qa_238), (el_57, 5, 0, .ref variables_79), (r1, 11, 8, .ref goals_42), (r0, 9, 0, .ref names_16), (r1, 11, 6, .int lemma_4)]) [0, 1, 4, 5, 6, 7] rfl (M1 := []) [] rfl (I1 := [([(2, 0), (2, 1)], jOw (dC, dI) G0 2 r2 s.heap)]) [0] rfl) (hNn_238) (((((hle_82).tr hb_1942).tr hb_2082).tr hb_2242).tr hb_2382) hgq_238_0 (⟨(by first | omega | rfl | assumption | fail), (by first | omega | rfl | assumption | fail), (by first | omega | rfl | assumption | fail), (by first | omega | rfl | assumption | fail), (by first | assumption | fail | omega), (by first | omega | rfl | assumption | fail), (by first | omega | rfl | assumption | fail), (by first | omega | rfl | assumption | fail), (by first | omega | rfl | assumption | fail)⟩) (by omega) _ (lv_sub hl [1, 2, 3, 4, 5, 0] rfl)
                  refine W.tight (c2 := zcx_70) (n2 := zsx_70) hh_78.2.2.2.2.2.1 hh_78.2.2.2.2.2.2.1 ?_
                  exact L119 (10 - (0 : Int32).toInt : Int).toNat.succ Gx_70 zcx_70 zsx_70 0 wc_70 wr_70 m_wr_70 _ _ (hh_78.sub (L1 := [(r2, 2, 1, .int wc_70), (r2, 2, 0, .ref wr_70), (el_57, 5, 0, .ref variables_79), (r1, 11, 8, .ref goals_42), (r0, 9, 0, .ref names_16), (r1, 11, 6, .int lemma_4)]) [1, 2, 0, 3, 4, 5] rfl (M1 := []) [] rfl (I1 := [([(2, 0), (2, 1)], jOw (dC, dI) G0 2 r2 s.heap)]) [0] rfl) (hN_70) (jLe.rf) hg_wr_70 (⟨(by first | omega | rfl | assumption | fail), (by first | omega | rfl | assumption | fail), (by first | omega | rfl | assumption | fail), (by first | omega | rfl | assumption | fail), (by first | assumption | fail | omega), (by first | omega | rfl | assumption | fail), (by first | omega | rfl | assumption | fail), (by first | omega | rfl | assumption | fail), (by first | omega | rfl | assumption | fail)⟩) (by omega) _ (lv_sub hl [1, 2, 3, 4, 5, 0] rfl)
                · skip
                  have c_81' : v5_70.toInt < z_80.toInt := jb_ge_n (rfl) (rfl) c_81
                  refine lv_aload_n hx hb dX7_proof_87 rfl (lv_at hl 0 rfl) ?_
                  refine j7_read hx hb hown hK (C := RX7) (T := TX7) (N := 5) rfl hly_9_0 hlk_21 (hh_78.at 4 rfl) dX7_proof_88 ?_
                  refine lv_aload hx hb dX7_proof_91 (lv_at hl 4 rfl) ?_
                  refine j7_read hx hb hown hK (C := RX3) (T := TX3) (N := 4) rfl hly_5_0 hlk_57 (hh_78.at 0 rfl) dX7_proof_93 ?_
                  refine lv_iload hx hb dX7_proof_96 (lv_at hl 5 rfl) ?_
                  refine j7_iald hx hb hK hh_78 hB101 1 rfl (by decide) hg_variables_79 (x := v5_70.toInt) (rfl) (by omega) dX7_proof_98 (fun z_253 (hz_253 : True) => ?_)
                  refine lv_iconst (v := 0) hx hb dX7_proof_99 (by decide) ?_
                  refine lv_aload_n hx hb dX7_proof_100 rfl (lv_at hl 2 rfl) ?_
                  have hsz_254 := hh_78.2.2.2.2.2.1
                  have htt_254 := hh_78.2.2.2.2.2.2.1
                  refine W.room (fun hrc_254 hrs_254 => ?_)
                  refine va_callv (A0 := jA base) (H0 := s.heap) (va_runV (As := [.int z_253, .int 0, .ref r2]) (rest := []) ⟨hx, hb, hml, hown, hts⟩ (uX6_write l dC dI ca base B hB hAp hB2 hB8 hB102 hB132 hB196 Gx_70 H_70 names_16 z_253 0 r2 wc_70 wr_70 m_wr_70 LC LS) (cwV 3 hts (jgV (jWr_31 _ (List.mem_of_getElem? (i := 17) rfl)) (jWr_31 _ (List.mem_of_getElem? (i := 18) rfl)) (jWr_31 _ (List.mem_of_getElem? (i := 19) rfl)) (jWr_4 _ (List.mem_of_getElem? (i := 10) rfl)) (jWr_31 _ (List.mem_of_getElem? (i := 20) rfl))) rfl rfl rfl (by decide +kernel) ⟨by rw [← hR]; exact Nat.le_of_ble_eq_true rfl, by rw [← hR]; exact Nat.le_of_ble_eq_true rfl⟩) ⟨fun a U g mk q => by obtain ⟨q0, q1, q2, qK, q10, q11, q12, q13, q14⟩ := q; exact ⟨q0, q1, q2, jG.calling g mk a qK, q10, q11, q12, q13, q14⟩, hh_78.recv (C := RX6) (T := TX6) (N := 4) hB8 rfl (by decide) hg_76 hK, fun U hU hW => ⟨rfl, hU, hh_78.2.1, hG.step hW hU hh_78.1, hg_73, hg_76, hg_wr_70, (hh_78.2.2.1.sub (L1 := [(r2, 2, 1, .int wc_70), (r2, 2, 0, .ref wr_70)]) [1, 2] rfl), (by omega), (by omega), ⟨(by first | omega | rfl | assumption | fail), (by first | omega | rfl | assumption | fail), (by first | omega | rfl | assumption | fail), (by first | omega | rfl | assumption | fail), (by first | assumption | fail | omega)⟩⟩⟩ rfl rfl hl.1 rfl (lv_room (Nat.le_of_ble_eq_true rfl)) dX7_proof_101 ⟨by rw [hRc]; omega, by rw [hRs]; omega⟩) hh_78.1 (fun q _ h => h) (fun q h => h) (fun u_254 t_254 H_254 locs_254 ht_254 hvm_254 hr_255 hb_254 hz_254 hk_254 hS_254 => ?_)
                  obtain ⟨qc_254, qa_254, m_qa_254, G_254⟩ := u_254
                  rw [ht_254] at hb_254
                  simp only at hb_254
                  obtain ⟨⟨hb_2541, hb_2542, hb_2543, hb_2544, hb_2545, hb_2546⟩, hgq_254_0, hN_254, hbO_254⟩ := hb_254
                  have hh_254 : jSt (dC, dI) B base G0 G_254 EX7_proof s.heap (zcx_70 + ((m_qa_254 - m_wr_70) / 16)) (zsx_70 + (2 * (m_qa_254 - m_wr_70))) [(r2, 2, 1, .int qc_254), (r2, 2, 0, .ref qa_254), (el_57, 5, 0, .ref variables_79), (r1, 11, 8, .ref goals_42), (r0, 9, 0, .ref names_16), (r1, 11, 6, .int lemma_4)] [] [] H_254 locs_254 := (hh_78.callG hb_2541 hb_2542 hb_2543 hb_2544 hb_2545 hS_254 rfl (L1 := [(el_57, 5, 0, .ref variables_79), (r1, 11, 8, .ref goals_42), (r0, 9, 0, .ref names_16), (r1, 11, 6, .int lemma_4)]) [0, 3, 4, 5] rfl rfl (M1 := []) [] rfl rfl (I1 := []) [] rfl rfl).more hb_2546
                  have hNn_254 : (jNk [0, 1, 2, 3, 4, 5, 6, 7, 8, 9, 10, 11, 12, 13, 14, 15, 16]) G0 G_254 := (hN_70).tr hN_254
                  have hg_256 := hb_2542 _ _ hg_71
                  have hg_257 := hb_2542 _ _ hg_72
                  have hg_258 := hb_2542 _ _ hg_73
                  have hg_259 := hb_2542 _ _ hg_74
                  have hg_260 := hb_2542 _ _ hg_variables_79
                  have hg_261 := hb_2542 _ _ hg_75
                  have hg_262 := hb_2542 _ _ hg_76
                  have hd_263 := jOw.tr (hh_78.iv 0 rfl) hh_78.2.2.2.2.1 hbO_254
                  have hh_264 := hh_254.addI (jOw.ie (dC := dC) (dI := dI) (G0 := G0) (k := 2) (r := r2) (H0 := s.heap) (F := [(2, 0), (2, 1)]) (C := RX0) (T := TX0) (N := 2) rfl (by decide) hh_254.2.2.2.2.1 (hd_263))
                  clear hh_254
                  try simp only at hr_255
                  obtain ⟨hr_255_0, hr_255_1, hr_255_2, hr_255_3, hr_255_4⟩ := hr_255
                  have hh_265 := hh_264.wk (zc1 := (m_qa_254 - n_pa) / 16) (zs1 := 2 * (m_qa_254 - n_pa)) (by omega) (by omega)
                  clear hh_264
                  try clear hsz_254 htt_254 hrc_254 hrs_254
                  try clear hb_2544 hb_2545
                  refine lv_aload_n hx hb dX7_proof_104 rfl (lv_at hl 2 rfl) ?_
                  refine lv_bipush (v := 32) hx hb dX7_proof_105 (by decide) ?_
                  have hsz_266 := hh_265.2.2.2.2.2.1
                  have htt_266 := hh_265.2.2.2.2.2.2.1
                  refine W.room (fun hrc_266 hrs_266 => ?_)
                  refine va_callv (A0 := jA base) (H0 := s.heap) (va_runV (As := [.int 32]) (rest := []) ⟨hx, hb, hml, hown, hts⟩ (uX0_put l dC dI ca base B hB hAp hB2 hB196 G_254 H_254 r2 32 qc_254 qa_254 m_qa_254 LC LS) (cwV 1 hts (jgV (jWr_31 _ (List.mem_of_getElem? (i := 2) rfl)) (jWr_16 _ (List.mem_of_getElem? (i := 0) rfl)) (jWr_16 _ (List.mem_of_getElem? (i := 1) rfl)) (jWr_1 _ (List.mem_of_getElem? (i := 14) rfl)) (jWr_16 _ (List.mem_of_getElem? (i := 2) rfl))) rfl rfl rfl (by decide +kernel) ⟨by rw [← hR]; exact Nat.le_of_ble_eq_true rfl, by rw [← hR]; exact Nat.le_of_ble_eq_true rfl⟩) ⟨fun a U g mk q => by obtain ⟨q0, q1, q2, qK, q10, q11, q12, q13⟩ := q; exact ⟨q0, q1, q2, jG.calling g mk a qK, q10, q11, q12, q13⟩, hh_265.recv (C := RX0) (T := TX0) (N := 2) hB2 rfl (by decide) hg_258 hK, fun U hU hW => ⟨rfl, hU, hh_265.2.1, hG.step hW hU hh_265.1, hg_258, hgq_254_0, (hh_265.2.2.1.sub (L1 := [(r2, 2, 1, .int qc_254), (r2, 2, 0, .ref qa_254)]) [0, 1] rfl), (by omega), (by omega), ⟨(by first | omega | rfl | assumption | fail), (by first | omega | rfl | assumption | fail), (by first | omega | rfl | assumption | fail), (by first | omega | rfl | assumption | fail), (by first | assumption | fail | omega)⟩⟩⟩ rfl rfl hl.1 rfl (lv_room (Nat.le_of_ble_eq_true rfl)) dX7_proof_107 ⟨by rw [hRc]; omega, by rw [hRs]; omega⟩) hh_265.1 (fun q _ h => h) (fun q h => h) (fun u_266 t_266 H_266 locs_266 ht_266 hvm_266 hr_267 hb_266 hz_266 hk_266 hS_266 => ?_)
                  obtain ⟨qc_266, qa_266, m_qa_266, G_266⟩ := u_266
                  rw [ht_266] at hb_266
                  simp only at hb_266
                  obtain ⟨⟨hb_2661, hb_2662, hb_2663, hb_2664, hb_2665, hb_2666⟩, hgq_266_0, hN_266, hbO_266⟩ := hb_266
                  have hh_266 : jSt (dC, dI) B base G0 G_266 EX7_proof s.heap (((m_qa_254 - n_pa) / 16) + ((m_qa_266 - m_qa_254) / 16)) ((2 * (m_qa_254 - n_pa)) + (2 * (m_qa_266 - m_qa_254))) [(r2, 2, 1, .int qc_266), (r2, 2, 0, .ref qa_266), (el_57, 5, 0, .ref variables_79), (r1, 11, 8, .ref goals_42), (r0, 9, 0, .ref names_16), (r1, 11, 6, .int lemma_4)] [] [] H_266 locs_266 := (hh_265.callG hb_2661 hb_2662 hb_2663 hb_2664 hb_2665 hS_266 rfl (L1 := [(el_57, 5, 0, .ref variables_79), (r1, 11, 8, .ref goals_42), (r0, 9, 0, .ref names_16), (r1, 11, 6, .int lemma_4)]) [2, 3, 4, 5] rfl rfl (M1 := []) [] rfl rfl (I1 := []) [] rfl rfl).more hb_2666
                  have hNn_266 : (jNk [0, 1, 2, 3, 4, 5, 6, 7, 8, 9, 10, 11, 12, 13, 14, 15, 16]) G0 G_266 := (hNn_254).tr hN_266
                  have hg_268 := hb_2662 _ _ hg_256
                  have hg_269 := hb_2662 _ _ hg_257
                  have hg_270 := hb_2662 _ _ hg_258
                  have hg_271 := hb_2662 _ _ hg_259
                  have hg_272 := hb_2662 _ _ hg_260
                  have hg_273 := hb_2662 _ _ hg_261
                  have hg_274 := hb_2662 _ _ hg_262
                  have hd_275 := jOw.tr (hh_265.iv 0 rfl) hh_265.2.2.2.2.1 hbO_266
                  have hh_276 := hh_266.addI (jOw.ie (dC := dC) (dI := dI) (G0 := G0) (k := 2) (r := r2) (H0 := s.heap) (F := [(2, 0), (2, 1)]) (C := RX0) (T := TX0) (N := 2) rfl (by decide) hh_266.2.2.2.2.1 (hd_275))
                  clear hh_266
                  try simp only at hr_267
                  obtain ⟨hr_267_0, hr_267_1, hr_267_2, hr_267_3, hr_267_4⟩ := hr_267
                  have hh_277 := hh_276.wk (zc1 := (m_qa_266 - n_pa) / 16) (zs1 := 2 * (m_qa_266 - n_pa)) (by omega) (by omega)
                  clear hh_276
                  try clear hsz_266 htt_266 hrc_266 hrs_266
                  try clear hb_2664 hb_2665
                  obtain ⟨z_278, ez_278⟩ : ∃ y : Int32, y = v5_70 + 1 := ⟨_, rfl⟩
                  refine lv_iinc (v := z_278) (lv' := [(5, .int z_278), (0, .ref r0), (1, .ref r1), (2, .ref r2), (3, .int v3_35), (4, .ref el_57)]) hx hb dX7_proof_110 hl (k := 5) rfl (by rw [ez_278]; rfl) (by decide) rfl (fun ls hl => ?_)
                  have hz_278 : z_278.toInt = v5_70.toInt + 1 := by rw [ez_278]; exact jb_iadd2 (rfl) (by decide) (by omega)
                  refine lv_goto (tgt := 76) hx hb dX7_proof_113 (by decide) ?_
                  refine W.tight (c2 := ((m_qa_266 - n_pa) / 16)) (n2 := (2 * (m_qa_266 - n_pa))) hh_277.2.2.2.2.2.1 hh_277.2.2.2.2.2.2.1 ?_
                  exact L76 G_266 ((m_qa_266 - n_pa) / 16) (2 * (m_qa_266 - n_pa)) z_278 qc_266 qa_266 m_qa_266 _ _ (hh_277.sub (L1 := [(r2, 2, 1, .int qc_266), (r2, 2, 0, .ref qa_266), (r1, 11, 8, .ref goals_42), (r0, 9, 0, .ref names_16), (r1, 11, 6, .int lemma_4)]) [0, 1, 3, 4, 5] rfl (M1 := []) [] rfl (I1 := [([(2, 0), (2, 1)], jOw (dC, dI) G0 2 r2 s.heap)]) [0] rfl) (hNn_266) (((hle_70).tr hb_2542).tr hb_2662) hgq_266_0 (⟨(by first | omega | rfl | assumption | fail), (by first | omega | rfl | assumption | fail), (by first | omega | rfl | assumption | fail), (by first | omega | rfl | assumption | fail), (by first | assumption | fail | omega), (by first | omega | rfl | assumption | fail), (by first | omega | rfl | assumption | fail), (by first | omega | rfl | assumption | fail), (by first | omega | rfl | assumption | fail)⟩) (by omega) _ (lv_sub hl [1, 2, 3, 4, 5, 0] rfl)
            refine W.tight (c2 := ((m_qa_59 - n_pa) / 16)) (n2 := (2 * (m_qa_59 - n_pa))) hh_69.2.2.2.2.2.1 hh_69.2.2.2.2.2.2.1 ?_
            exact L76 (8 - (0 : Int32).toInt : Int).toNat.succ G_59 ((m_qa_59 - n_pa) / 16) (2 * (m_qa_59 - n_pa)) 0 qc_59 qa_59 m_qa_59 _ _ hh_69 (hNn_59) (jLe.rf) hgq_59_0 (⟨(by first | omega | rfl | assumption | fail), (by first | omega | rfl | assumption | fail), (by first | omega | rfl | assumption | fail), (by first | omega | rfl | assumption | fail), (by first | assumption | fail | omega), (by first | omega | rfl | assumption | fail), (by first | omega | rfl | assumption | fail), (by first | omega | rfl | assumption | fail), (by first | omega | rfl | assumption | fail)⟩) (by omega) _ (lv_sub hl [2, 3, 4, 5, 1, 0] rfl)
          · skip
            have c_58' : v3_35.toInt > 0 := jb_le_n (rfl) ((by decide)) c_58
            refine va_ldcS hx hb hown rstr53 dX7_proof_63 ?_
            refine lv_goto (tgt := 70) hx hb dX7_proof_65 (by decide) ?_
            have hsz_279 := hh_41.2.2.2.2.2.1
            have htt_279 := hh_41.2.2.2.2.2.2.1
            refine W.room (fun hrc_279 hrs_279 => ?_)
            refine va_callv (A0 := jA base) (H0 := s.heap) (va_runV (As := [.ref str53]) (rest := []) ⟨hx, hb, hml, hown, hts⟩ (uX0_text l dC dI ca base B hB hAp hB2 hB196 Gx_35 H_35 r2 str53 2 wc_35 wr_35 m_wr_35 LC LS) (cwV 1 hts (jgV (jWr_31 _ (List.mem_of_getElem? (i := 16) rfl)) (jWr_25 _ (List.mem_of_getElem? (i := 22) rfl)) (jWr_25 _ (List.mem_of_getElem? (i := 23) rfl)) (jWr_1 _ (List.mem_of_getElem? (i := 14) rfl)) (jWr_26 _ (List.mem_of_getElem? (i := 0) rfl))) rfl rfl rfl (by decide +kernel) ⟨by rw [← hR]; exact Nat.le_of_ble_eq_true rfl, by rw [← hR]; exact Nat.le_of_ble_eq_true rfl⟩) ⟨fun a U g mk q => by obtain ⟨q0, q1, q2, qK, q10, q11, q12, q13, q14⟩ := q; exact ⟨q0, q1, q2, jG.calling g mk a qK, (q10.moved (Vm.Alike.refl U.vm)), q11, q12, q13, q14⟩, hh_41.recv (C := RX0) (T := TX0) (N := 2) hB2 rfl (by decide) hg_38 hK, fun U hU hW => ⟨rfl, hU, hh_41.2.1, hG.step hW hU hh_41.1, (hstr53.moved hW.alike).kept hh_41.1.2.1, hg_38, hg_wr_35, (hh_41.2.2.1.sub (L1 := [(r2, 2, 1, .int wc_35), (r2, 2, 0, .ref wr_35)]) [1, 2] rfl), (by omega), (by omega), ⟨(by first | omega | rfl | assumption | fail), (by first | omega | rfl | assumption | fail), (by first | omega | rfl | assumption | fail), (by first | omega | rfl | assumption | fail), (by first | assumption | fail | omega), (by first | omega | rfl | assumption | fail)⟩⟩⟩ rfl rfl hl.1 rfl (lv_room (Nat.le_of_ble_eq_true rfl)) dX7_proof_70 ⟨by rw [hRc]; omega, by rw [hRs]; omega⟩) hh_41.1 (fun q _ h => h) (fun q h => h) (fun u_279 t_279 H_279 locs_279 ht_279 hvm_279 hr_280 hb_279 hz_279 hk_279 hS_279 => ?_)
            obtain ⟨qc_279, qa_279, m_qa_279, G_279⟩ := u_279
            rw [ht_279] at hb_279
            simp only at hb_279
            obtain ⟨⟨hb_2791, hb_2792, hb_2793, hb_2794, hb_2795, hb_2796⟩, hgq_279_0, hN_279, hbO_279⟩ := hb_279
            have hh_279 : jSt (dC, dI) B base G0 G_279 EX7_proof s.heap (zcx_35 + ((m_qa_279 - m_wr_35) / 16)) (zsx_35 + (2 * (m_qa_279 - m_wr_35))) [(r2, 2, 1, .int qc_279), (r2, 2, 0, .ref qa_279), (r1, 11, 8, .ref goals_42), (r0, 9, 0, .ref names_16), (r1, 11, 6, .int lemma_4)] [] [] H_279 locs_279 := (hh_41.callG hb_2791 hb_2792 hb_2793 hb_2794 hb_2795 hS_279 rfl (L1 := [(r1, 11, 8, .ref goals_42), (r0, 9, 0, .ref names_16), (r1, 11, 6, .int lemma_4)]) [0, 3, 4] rfl rfl (M1 := []) [] rfl rfl (I1 := []) [] rfl rfl).more hb_2796
            have hNn_279 : (jNk [0, 1, 2, 3, 4, 5, 6, 7, 8, 9, 10, 11, 12, 13, 14, 15, 16]) G0 G_279 := (hN_35).tr hN_279
            have hg_281 := hb_2792 _ _ hg_el_57
            have hg_282 := hb_2792 _ _ hg_36
            have hg_283 := hb_2792 _ _ hg_37
            have hg_284 := hb_2792 _ _ hg_38
            have hg_285 := hb_2792 _ _ hg_goals_42
            have hg_286 := hb_2792 _ _ hg_39
            have hd_287 := jOw.tr (hh_41.iv 0 rfl) hh_41.2.2.2.2.1 hbO_279
            have hh_288 := hh_279.addI (jOw.ie (dC := dC) (dI := dI) (G0 := G0) (k := 2) (r := r2) (H0 := s.heap) (F := [(2, 0), (2, 1)]) (C := RX0) (T := TX0) (N := 2) rfl (by decide) hh_279.2.2.2.2.1 (hd_287))
            clear hh_279
            try simp only at hr_280
            obtain ⟨hr_280_0, hr_280_1, hr_280_2, hr_280_3, hr_280_4⟩ := hr_280
            have hh_289 := hh_288.wk (zc1 := (m_qa_279 - n_pa) / 16) (zs1 := 2 * (m_qa_279 - n_pa)) (by omega) (by omega)
            clear hh_288
            try clear hsz_279 htt_279 hrc_279 hrs_279
            try clear hb_2794 hb_2795
            refine lv_iconst (v := 0) hx hb dX7_proof_73 (by decide) ?_
            refine lv_istore (lv' := [(5, .int 0), (4, .ref el_57), (0, .ref r0), (1, .ref r1), (2, .ref r2), (3, .int v3_35)]) hx hb dX7_proof_74 hl (by decide) rfl (fun ls hl => ?_)
            have L76 : ∀ (N : Nat) (Gx_290 : jT) (zcx_290 : Nat) (zsx_290 : Nat) (v5_290 : Int32) (wc_290 : Int32) (wr_290 : Nat) (m_wr_290 : Nat) (H_290 : Heap) (locs_290 : List Loc), jSt (dC, dI) B base G0 Gx_290 EX7_proof s.heap zcx_290 zsx_290 [(r2, 2, 1, .int wc_290), (r2, 2, 0, .ref wr_290), (r1, 11, 8, .ref goals_42), (r0, 9, 0, .ref names_16), (r1, 11, 6, .int lemma_4)] [] [([(2, 0), (2, 1)], jOw (dC, dI) G0 2 r2 s.heap)] H_290 locs_290 → (jNk [0, 1, 2, 3, 4, 5, 6, 7, 8, 9, 10, 11, 12, 13, 14, 15, 16]) G0 Gx_290 → jLe G_279 Gx_290 → Gx_290 wr_290 = some (196, m_wr_290) → (0 ≤ wc_290.toInt ∧ wc_290.toInt ≤ m_wr_290 ∧ n_pa ≤ m_wr_290 ∧ m_wr_290 ≤ 1048576 ∧ jPw m_wr_290 ∧ zcx_290 ≤ (m_wr_290 - n_pa) / 16 ∧ zsx_290 ≤ 2 * (m_wr_290 - n_pa) ∧ 0 ≤ v5_290.toInt ∧ v5_290.toInt ≤ 7) → (8 - v5_290.toInt : Int) < N → ∀ ls : Array Slot, lv_has ls 6 [(0, .ref r0), (1, .ref r1), (2, .ref r2), (3, .int v3_35), (4, .ref el_57), (5, .int v5_290)] → W p l e R s m ([.ref r0, .ref r1, .ref r2] : List Value).toArray below meth c H_290 locs_290 zcx_290 zsx_290 Q (F0 m 76 ls []) := by
              intro N
              induction N with
              | zero => intro Gx_290 zcx_290 zsx_290 v5_290 wc_290 wr_290 m_wr_290 H_290 locs_290 hh_290 hN_290 hle_290 hg_wr_290 hi_290 hm; exact absurd hm (by omega)
              | succ N L76 =>
                intro Gx_290 zcx_290 zsx_290 v5_290 wc_290 wr_290 m_wr_290 H_290 locs_290 hh_290 hN_290 hle_290 hg_wr_290 hi_290 hm_290 ls hl
                have hg_291 := hle_290 _ _ hg_282
                have hg_292 := hle_290 _ _ hg_283
                have hg_293 := hle_290 _ _ hg_284
                have hg_294 := hle_290 _ _ hg_281
                have hg_295 := hle_290 _ _ hg_285
                have hg_296 := hle_290 _ _ hg_286
                obtain ⟨hi_290_0, hi_290_1, hi_290_2, hi_290_3, hi_290_4, hi_290_5, hi_290_6, hi_290_7, hi_290_8⟩ := hi_290
                refine lv_iload hx hb dX7_proof_76 (lv_at hl 5 rfl) ?_
                refine lv_aload hx hb dX7_proof_78 (lv_at hl 4 rfl) ?_
                obtain ⟨v_297, hv_297, hh_298⟩ := hh_290.pin (C := RX3) (T := TX3) (N := 4) hB5 rfl (by decide) hg_294 (i := 0) (by decide) rfl
                clear hh_290
                obtain ⟨variables_299, nvariables_299, rfl, hg_variables_299, hvavariables_299, hvbvariables_299, hvcvariables_299⟩ := hv_297
                refine j7_read hx hb hown hK (C := RX3) (T := TX3) (N := 4) rfl hly_5_0 hlk_57 (hh_298.at 0 rfl) dX7_proof_80 ?_
                refine j7_len hx hb hK hh_298 hB101 1 rfl (by decide) hg_variables_299 (by omega) dX7_proof_83 (fun z_300 hz_300 => ?_)
                refine lv_icmp_ge (tgt := 116) hx hb dX7_proof_84 (by decide) (fun c_301 => ?_) (fun c_301 => ?_)
                · skip
                  have c_301' : v5_290.toInt ≥ z_300.toInt := jb_ge (rfl) (rfl) c_301
                  refine lv_iconst (v := 0) hx hb dX7_proof_116 (by decide) ?_
                  refine lv_istore (lv' := [(5, .int 0), (0, .ref r0), (1, .ref r1), (2, .ref r2), (3, .int v3_35), (4, .ref el_57)]) hx hb dX7_proof_117 hl (by decide) rfl (fun ls hl => ?_)
                  have L119 : ∀ (N : Nat) (Gx_302 : jT) (zcx_302 : Nat) (zsx_302 : Nat) (v5_302 : Int32) (wc_302 : Int32) (wr_302 : Nat) (m_wr_302 : Nat) (H_302 : Heap) (locs_302 : List Loc), jSt (dC, dI) B base G0 Gx_302 EX7_proof s.heap zcx_302 zsx_302 [(r2, 2, 1, .int wc_302), (r2, 2, 0, .ref wr_302), (el_57, 5, 0, .ref variables_299), (r1, 11, 8, .ref goals_42), (r0, 9, 0, .ref names_16), (r1, 11, 6, .int lemma_4)] [] [([(2, 0), (2, 1)], jOw (dC, dI) G0 2 r2 s.heap)] H_302 locs_302 → (jNk [0, 1, 2, 3, 4, 5, 6, 7, 8, 9, 10, 11, 12, 13, 14, 15, 16]) G0 Gx_302 → jLe Gx_290 Gx_302 → Gx_302 wr_302 = some (196, m_wr_302) → (0 ≤ wc_302.toInt ∧ wc_302.toInt ≤ m_wr_302 ∧ n_pa ≤ m_wr_302 ∧ m_wr_302 ≤ 1048576 ∧ jPw m_wr_302 ∧ zcx_302 ≤ (m_wr_302 - n_pa) / 16 ∧ zsx_302 ≤ 2 * (m_wr_302 - n_pa) ∧ 0 ≤ v5_302.toInt ∧ v5_302.toInt ≤ 9) → (10 - v5_302.toInt : Int) < N → ∀ ls : Array Slot, lv_has ls 6 [(0, .ref r0), (1, .ref r1), (2, .ref r2), (3, .int v3_35), (4, .ref el_57), (5, .int v5_302)] → W p l e R s m ([.ref r0, .ref r1, .ref r2] : List Value).toArray below meth c H_302 locs_302 zcx_302 zsx_302 Q (F0 m 119 ls []) := by
                    intro N
                    induction N with
                    | zero => intro Gx_302 zcx_302 zsx_302 v5_302 wc_302 wr_302 m_wr_302 H_302 locs_302 hh_302 hN_302 hle_302 hg_wr_302 hi_302 hm; exact absurd hm (by omega)
                    | succ N L119 =>
                      intro Gx_302 zcx_302 zsx_302 v5_302 wc_302 wr_302 m_wr_302 H_302 locs_302 hh_302 hN_302 hle_302 hg_wr_302 hi_302 hm_302 ls hl
                      have hg_303 := hle_302 _ _ hg_291
                      have hg_304 := hle_302 _ _ hg_292
                      have hg_305 := hle_302 _ _ hg_293
                      have hg_306 := hle_302 _ _ hg_294
                      have hg_307 := hle_302 _ _ hg_variables_299
                      have hg_308 := hle_302 _ _ hg_295
                      have hg_309 := hle_302 _ _ hg_296
                      obtain ⟨hi_302_0, hi_302_1, hi_302_2, hi_302_3, hi_302_4, hi_302_5, hi_302_6, hi_302_7, hi_302_8⟩ := hi_302
                      refine lv_iload hx hb dX7_proof_119 (lv_at hl 5 rfl) ?_
                      refine lv_aload hx hb dX7_proof_121 (lv_at hl 4 rfl) ?_
                      obtain ⟨v_310, hv_310, hh_311⟩ := hh_302.pin (C := RX3) (T := TX3) (N := 4) hB5 rfl (by decide) hg_306 (i := 1) (by decide) rfl
                      clear hh_302
                      obtain ⟨names_312, rfl, hg_names_312⟩ := hv_310
                      refine j7_read hx hb hown hK (C := RX3) (T := TX3) (N := 4) rfl hly_5_1 hlk_66 (hh_311.at 0 rfl) dX7_proof_123 ?_
                      refine j7_len hx hb hK hh_311 hB101 1 rfl (by decide) hg_names_312 (by omega) dX7_proof_126 (fun z_313 hz_313 => ?_)
                      refine lv_icmp_ge (tgt := 189) hx hb dX7_proof_127 (by decide) (fun c_314 => ?_) (fun c_314 => ?_)
                      · skip
                        have c_314' : v5_302.toInt ≥ z_313.toInt := jb_ge (rfl) (rfl) c_314
                        refine lv_aload_n hx hb dX7_proof_189 rfl (lv_at hl 2 rfl) ?_
                        refine va_ldcS hx hb hown rstr80 dX7_proof_190 ?_
                        have hsz_315 := hh_311.2.2.2.2.2.1
                        have htt_315 := hh_311.2.2.2.2.2.2.1
                        refine W.room (fun hrc_315 hrs_315 => ?_)
                        refine va_callv (A0 := jA base) (H0 := s.heap) (va_runV (As := [.ref str80]) (rest := []) ⟨hx, hb, hml, hown, hts⟩ (uX0_text l dC dI ca base B hB hAp hB2 hB196 Gx_302 H_302 r2 str80 3 wc_302 wr_302 m_wr_302 LC LS) (cwV 1 hts (jgV (jWr_31 _ (List.mem_of_getElem? (i := 16) rfl)) (jWr_25 _ (List.mem_of_getElem? (i := 22) rfl)) (jWr_25 _ (List.mem_of_getElem? (i := 23) rfl)) (jWr_1 _ (List.mem_of_getElem? (i := 14) rfl)) (jWr_26 _ (List.mem_of_getElem? (i := 0) rfl))) rfl rfl rfl (by decide +kernel) ⟨by rw [← hR]; exact Nat.le_of_ble_eq_true rfl, by rw [← hR]; exact Nat.le_of_ble_eq_true rfl⟩) ⟨fun a U g mk q => by obtain ⟨q0, q1, q2, qK, q10, q11, q12, q13, q14⟩ := q; exact ⟨q0, q1, q2, jG.calling g mk a qK, (q10.moved (Vm.Alike.refl U.vm)), q11, q12, q13, q14⟩, hh_311.recv (C := RX0) (T := TX0) (N := 2) hB2 rfl (by decide) hg_305 hK, fun U hU hW => ⟨rfl, hU, hh_311.2.1, hG.step hW hU hh_311.1, (hstr80.moved hW.alike).kept hh_311.1.2.1, hg_305, hg_wr_302, (hh_311.2.2.1.sub (L1 := [(r2, 2, 1, .int wc_302), (r2, 2, 0, .ref wr_302)]) [1, 2] rfl), (by omega), (by omega), ⟨(by first | omega | rfl | assumption | fail), (by first | omega | rfl | assumption | fail), (by first | omega | rfl | assumption | fail), (by first | omega | rfl | assumption | fail), (by first | assumption | fail | omega), (by first | omega | rfl | assumption | fail)⟩⟩⟩ rfl rfl hl.1 rfl (lv_room (Nat.le_of_ble_eq_true rfl)) dX7_proof_192 ⟨by rw [hRc]; omega, by rw [hRs]; omega⟩) hh_311.1 (fun q _ h => h) (fun q h => h) (fun u_315 t_315 H_315 locs_315 ht_315 hvm_315 hr_316 hb_315 hz_315 hk_315 hS_315 => ?_)
                        obtain ⟨qc_315, qa_315, m_qa_315, G_315⟩ := u_315
                        rw [ht_315] at hb_315
                        simp only at hb_315
                        obtain ⟨⟨hb_3151, hb_3152, hb_3153, hb_3154, hb_3155, hb_3156⟩, hgq_315_0, hN_315, hbO_315⟩ := hb_315
                        have hh_315 : jSt (dC, dI) B base G0 G_315 EX7_proof s.heap (zcx_302 + ((m_qa_315 - m_wr_302) / 16)) (zsx_302 + (2 * (m_qa_315 - m_wr_302))) [(r2, 2, 1, .int qc_315), (r2, 2, 0, .ref qa_315), (el_57, 5, 1, .ref names_312), (el_57, 5, 0, .ref variables_299), (r1, 11, 8, .ref goals_42), (r0, 9, 0, .ref names_16), (r1, 11, 6, .int lemma_4)] [] [] H_315 locs_315 := (hh_311.callG hb_3151 hb_3152 hb_3153 hb_3154 hb_3155 hS_315 rfl (L1 := [(el_57, 5, 1, .ref names_312), (el_57, 5, 0, .ref variables_299), (r1, 11, 8, .ref goals_42), (r0, 9, 0, .ref names_16), (r1, 11, 6, .int lemma_4)]) [0, 3, 4, 5, 6] rfl rfl (M1 := []) [] rfl rfl (I1 := []) [] rfl rfl).more hb_3156
                        have hNn_315 : (jNk [0, 1, 2, 3, 4, 5, 6, 7, 8, 9, 10, 11, 12, 13, 14, 15, 16]) G0 G_315 := (hN_302).tr hN_315
                        have hg_317 := hb_3152 _ _ hg_303
                        have hg_318 := hb_3152 _ _ hg_304
                        have hg_319 := hb_3152 _ _ hg_305
                        have hg_320 := hb_3152 _ _ hg_306
                        have hg_321 := hb_3152 _ _ hg_names_312
                        have hg_322 := hb_3152 _ _ hg_307
                        have hg_323 := hb_3152 _ _ hg_308
                        have hg_324 := hb_3152 _ _ hg_309
                        have hd_325 := jOw.tr (hh_311.iv 0 rfl) hh_311.2.2.2.2.1 hbO_315
                        have hh_326 := hh_315.addI (jOw.ie (dC := dC) (dI := dI) (G0 := G0) (k := 2) (r := r2) (H0 := s.heap) (F := [(2, 0), (2, 1)]) (C := RX0) (T := TX0) (N := 2) rfl (by decide) hh_315.2.2.2.2.1 (hd_325))
                        clear hh_315
                        try simp only at hr_316
                        obtain ⟨hr_316_0, hr_316_1, hr_316_2, hr_316_3, hr_316_4⟩ := hr_316
                        have hh_327 := hh_326.wk (zc1 := (m_qa_315 - n_pa) / 16) (zs1 := 2 * (m_qa_315 - n_pa)) (by omega) (by omega)
                        clear hh_326
                        try clear hsz_315 htt_315 hrc_315 hrs_315
                        try clear hb_3154 hb_3155
                        refine lv_aload_n hx hb dX7_proof_195 rfl (lv_at hl 0 rfl) ?_
                        refine lv_aload hx hb dX7_proof_196 (lv_at hl 4 rfl) ?_
                        obtain ⟨v_328, hv_328, hh_329⟩ := hh_327.pin (C := RX3) (T := TX3) (N := 4) hB5 rfl (by decide) hg_320 (i := 3) (by decide) rfl
                        clear hh_327
                        rcases hv_328 with ⟨rfl, hcv_328⟩ | ⟨formula_330, nformula_330, rfl, hg_formula_330, hn_formula_330, hcv_328, hdv_328⟩
                        · exact absurd hcv_328 (by omega)
                        refine j7_read hx hb hown hK (C := RX3) (T := TX3) (N := 4) rfl hly_5_3 hlk_82 (hh_329.at 0 rfl) dX7_proof_198 ?_
                        refine lv_aload_n hx hb dX7_proof_201 rfl (lv_at hl 2 rfl) ?_
                        have hsz_331 := hh_329.2.2.2.2.2.1
                        have htt_331 := hh_329.2.2.2.2.2.2.1
                        refine W.room (fun hrc_331 hrs_331 => ?_)
                        refine va_callv (A0 := jA base) (H0 := s.heap) (va_runV (As := [.ref formula_330, .ref r2]) (rest := []) ⟨hx, hb, hml, hown, hts⟩ (uX7_formula l dC dI ca base B hB hAp hB2 hB8 hB9 hB102 hB132 hB196 hB280 hB286 hB287 hB288 G_315 H_315 r0 formula_330 r2 nformula_330 qc_315 qa_315 m_qa_315 LC LS) (cwV 2 hts (jgV (jWr_31 _ (List.mem_of_getElem? (i := 3) rfl)) (jWr_31 _ (List.mem_of_getElem? (i := 4) rfl)) (jWr_31 _ (List.mem_of_getElem? (i := 5) rfl)) (jWr_2 _ (List.mem_of_getElem? (i := 8) rfl)) (jWr_31 _ (List.mem_of_getElem? (i := 6) rfl))) rfl rfl rfl (by decide +kernel) ⟨by rw [← hR]; exact Nat.le_of_ble_eq_true rfl, by rw [← hR]; exact Nat.le_of_ble_eq_true rfl⟩) ⟨fun a U g mk q => by obtain ⟨q0, q1, q2, qK, q10, q11, q12, q13, q14, q15⟩ := q; exact ⟨q0, q1, q2, jG.calling g mk a qK, q10, q11, q12, q13, q14, q15⟩, hh_329.recv (C := RX7) (T := TX7) (N := 5) hB9 rfl (by decide) hg_317 hK, fun U hU hW => ⟨rfl, hU, hh_329.2.1, hG.step hW hU hh_329.1, hg_319, hg_formula_330, hg_317, hgq_315_0, (hh_329.2.2.1.sub (L1 := [(r2, 2, 1, .int qc_315), (r2, 2, 0, .ref qa_315)]) [1, 2] rfl), (by omega), (by omega), ⟨(by first | omega | rfl | assumption | fail), (by first | omega | rfl | assumption | fail), (by first | omega | rfl | assumption | fail), (by first | omega | rfl | assumption | fail), (by first | assumption | fail | omega), (by first | omega | rfl | assumption | fail)⟩⟩⟩ rfl rfl hl.1 rfl (lv_room (Nat.le_of_ble_eq_true rfl)) dX7_proof_202 ⟨by rw [hRc]; omega, by rw [hRs]; omega⟩) hh_329.1 (fun q _ h => h) (fun q h => h) (fun u_331 t_331 H_331 locs_331 ht_331 hvm_331 hr_332 hb_331 hz_331 hk_331 hS_331 => ?_)
                        obtain ⟨qc_331, qa_331, m_qa_331, G_331⟩ := u_331
                        rw [ht_331] at hb_331
                        simp only at hb_331
                        obtain ⟨⟨hb_3311, hb_3312, hb_3313, hb_3314, hb_3315, hb_3316⟩, hgq_331_0, hN_331, hbO_331⟩ := hb_331
                        have hh_331 : jSt (dC, dI) B base G0 G_331 EX7_proof s.heap (((m_qa_315 - n_pa) / 16) + ((m_qa_331 - m_qa_315) / 16)) ((2 * (m_qa_315 - n_pa)) + (2 * (m_qa_331 - m_qa_315))) [(r2, 2, 1, .int qc_331), (r2, 2, 0, .ref qa_331), (el_57, 5, 3, .ref formula_330), (el_57, 5, 1, .ref names_312), (el_57, 5, 0, .ref variables_299), (r1, 11, 8, .ref goals_42), (r0, 9, 0, .ref names_16), (r1, 11, 6, .int lemma_4)] [] [] H_331 locs_331 := (hh_329.callG hb_3311 hb_3312 hb_3313 hb_3314 hb_3315 hS_331 rfl (L1 := [(el_57, 5, 3, .ref formula_330), (el_57, 5, 1, .ref names_312), (el_57, 5, 0, .ref variables_299), (r1, 11, 8, .ref goals_42), (r0, 9, 0, .ref names_16), (r1, 11, 6, .int lemma_4)]) [0, 3, 4, 5, 6, 7] rfl rfl (M1 := []) [] rfl rfl (I1 := []) [] rfl rfl).more hb_3316
                        have hNn_331 : (jNk [0, 1, 2, 3, 4, 5, 6, 7, 8, 9, 10, 11, 12, 13, 14, 15, 16]) G0 G_331 := (hNn_315).tr hN_331
                        have hg_333 := hb_3312 _ _ hg_317
                        have hg_334 := hb_3312 _ _ hg_318
                        have hg_335 := hb_3312 _ _ hg_319
                        have hg_336 := hb_3312 _ _ hg_320
                        have hg_337 := hb_3312 _ _ hg_formula_330
                        have hg_338 := hb_3312 _ _ hg_321
                        have hg_339 := hb_3312 _ _ hg_322
                        have hg_340 := hb_3312 _ _ hg_323
                        have hg_341 := hb_3312 _ _ hg_324
                        have hd_342 := jOw.tr (hh_329.iv 0 rfl) hh_329.2.2.2.2.1 hbO_331
                        have hh_343 := hh_331.addI (jOw.ie (dC := dC) (dI := dI) (G0 := G0) (k := 2) (r := r2) (H0 := s.heap) (F := [(2, 0), (2, 1)]) (C := RX0) (T := TX0) (N := 2) rfl (by decide) hh_331.2.2.2.2.1 (hd_342))
                        clear hh_331
                        try simp only at hr_332
                        obtain ⟨hr_332_0, hr_332_1, hr_332_2, hr_332_3, hr_332_4⟩ := hr_332
                        have hh_344 := hh_343.wk (zc1 := (m_qa_331 - n_pa) / 16) (zs1 := 2 * (m_qa_331 - n_pa)) (by omega) (by omega)
                        clear hh_343
                        try clear hsz_331 htt_331 hrc_331 hrs_331
                        try clear hb_3314 hb_3315
                        refine lv_aload_n hx hb dX7_proof_205 rfl (lv_at hl 2 rfl) ?_
                        refine lv_bipush (v := 34) hx hb dX7_proof_206 (by decide) ?_
                        have hsz_345 := hh_344.2.2.2.2.2.1
                        have htt_345 := hh_344.2.2.2.2.2.2.1
                        refine W.room (fun hrc_345 hrs_345 => ?_)
                        refine va_callv (A0 := jA base) (H0 := s.heap) (va_runV (As := [.int 34]) (rest := []) ⟨hx, hb, hml, hown, hts⟩ (uX0_put l dC dI ca base B hB hAp hB2 hB196 G_331 H_331 r2 34 qc_331 qa_331 m_qa_331 LC LS) (cwV 1 hts (jgV (jWr_31 _ (List.mem_of_getElem? (i := 2) rfl)) (jWr_16 _ (List.mem_of_getElem? (i := 0) rfl)) (jWr_16 _ (List.mem_of_getElem? (i := 1) rfl)) (jWr_1 _ (List.mem_of_getElem? (i := 14) rfl)) (jWr_16 _ (List.mem_of_getElem? (i := 2) rfl))) rfl rfl rfl (by decide +kernel) ⟨by rw [← hR]; exact Nat.le_of_ble_eq_true rfl, by rw [← hR]; exact Nat.le_of_ble_eq_true rfl⟩) ⟨fun a U g mk q => by obtain ⟨q0, q1, q2, qK, q10, q11, q12, q13⟩ := q; exact ⟨q0, q1, q2, jG.calling g mk a qK, q10, q11, q12, q13⟩, hh_344.recv (C := RX0) (T := TX0) (N := 2) hB2 rfl (by decide) hg_335 hK, fun U hU hW => ⟨rfl, hU, hh_344.2.1, hG.step hW hU hh_344.1, hg_335, hgq_331_0, (hh_344.2.2.1.sub (L1 := [(r2, 2, 1, .int qc_331), (r2, 2, 0, .ref qa_331)]) [0, 1] rfl), (by omega), (by omega), ⟨(by first | omega | rfl | assumption | fail), (by first | omega | rfl | assumption | fail), (by first | omega | rfl | assumption | fail), (by first | omega | rfl | assumption | fail), (by first | assumption | fail | omega)⟩⟩⟩ rfl rfl hl.1 rfl (lv_room (Nat.le_of_ble_eq_true rfl)) dX7_proof_208 ⟨by rw [hRc]; omega, by rw [hRs]; omega⟩) hh_344.1 (fun q _ h => h) (fun q h => h) (fun u_345 t_345 H_345 locs_345 ht_345 hvm_345 hr_346 hb_345 hz_345 hk_345 hS_345 => ?_)
                        obtain ⟨qc_345, qa_345, m_qa_345, G_345⟩ := u_345
                        rw [ht_345] at hb_345
                        simp only at hb_345
                        obtain ⟨⟨hb_3451, hb_3452, hb_3453, hb_3454, hb_3455, hb_3456⟩, hgq_345_0, hN_345, hbO_345⟩ := hb_345
                        have hh_345 : jSt (dC, dI) B base G0 G_345 EX7_proof s.heap (((m_qa_331 - n_pa) / 16) + ((m_qa_345 - m_qa_331) / 16)) ((2 * (m_qa_331 - n_pa)) + (2 * (m_qa_345 - m_qa_331))) [(r2, 2, 1, .int qc_345), (r2, 2, 0, .ref qa_345), (el_57, 5, 3, .ref formula_330), (el_57, 5, 1, .ref names_312), (el_57, 5, 0, .ref variables_299), (r1, 11, 8, .ref goals_42), (r0, 9, 0, .ref names_16), (r1, 11, 6, .int lemma_4)] [] [] H_345 locs_345 := (hh_344.callG hb_3451 hb_3452 hb_3453 hb_3454 hb_3455 hS_345 rfl (L1 := [(el_57, 5, 3, .ref formula_330), (el_57, 5, 1, .ref names_312), (el_57, 5, 0, .ref variables_299), (r1, 11, 8, .ref goals_42), (r0, 9, 0, .ref names_16), (r1, 11, 6, .int lemma_4)]) [2, 3, 4, 5, 6, 7] rfl rfl (M1 := []) [] rfl rfl (I1 := []) [] rfl rfl).more hb_3456
                        have hNn_345 : (jNk [0, 1, 2, 3, 4, 5, 6, 7, 8, 9, 10, 11, 12, 13, 14, 15, 16]) G0 G_345 := (hNn_331).tr hN_345
                        have hg_347 := hb_3452 _ _ hg_333
                        have hg_348 := hb_3452 _ _ hg_334
                        have hg_349 := hb_3452 _ _ hg_335
                        have hg_350 := hb_3452 _ _ hg_336
                        have hg_351 := hb_3452 _ _ hg_337
                        have hg_352 := hb_3452 _ _ hg_338
                        have hg_353 := hb_3452 _ _ hg_339
                        have hg_354 := hb_3452 _ _ hg_340
                        have hg_355 := hb_3452 _ _ hg_341
                        have hd_356 := jOw.tr (hh_344.iv 0 rfl) hh_344.2.2.2.2.1 hbO_345
                        have hh_357 := hh_345.addI (jOw.ie (dC := dC) (dI := dI) (G0 := G0) (k := 2) (r := r2) (H0 := s.heap) (F := [(2, 0), (2, 1)]) (C := RX0) (T := TX0) (N := 2) rfl (by decide) hh_345.2.2.2.2.1 (hd_356))
                        clear hh_345
                        try simp only at hr_346
                        obtain ⟨hr_346_0, hr_346_1, hr_346_2, hr_346_3, hr_346_4⟩ := hr_346
                        have hh_358 := hh_357.wk (zc1 := (m_qa_345 - n_pa) / 16) (zs1 := 2 * (m_qa_345 - n_pa)) (by omega) (by omega)
                        clear hh_357
                        try clear hsz_345 htt_345 hrc_345 hrs_345
                        try clear hb_3454 hb_3455
                        obtain ⟨z_359, ez_359⟩ : ∃ y : Int32, y = v3_35 + 1 := ⟨_, rfl⟩
                        refine lv_iinc (v := z_359) (lv' := [(3, .int z_359), (0, .ref r0), (1, .ref r1), (2, .ref r2), (4, .ref el_57), (5, .int v5_302)]) hx hb dX7_proof_211 hl (k := 3) rfl (by rw [ez_359]; rfl) (by decide) rfl (fun ls hl => ?_)
                        have hz_359 : z_359.toInt = v3_35.toInt + 1 := by rw [ez_359]; exact jb_iadd2 (rfl) (by decide) (by omega)
                        refine lv_goto (tgt := 41) hx hb dX7_proof_214 (by decide) ?_
                        refine W.tight (c2 := ((m_qa_345 - n_pa) / 16)) (n2 := (2 * (m_qa_345 - n_pa))) hh_358.2.2.2.2.2.1 hh_358.2.2.2.2.2.2.1 ?_
                        exact L41 G_345 ((m_qa_345 - n_pa) / 16) (2 * (m_qa_345 - n_pa)) z_359 qc_345 qa_345 m_qa_345 _ _ (hh_358.sub (L1 := [(r2, 2, 1, .int qc_345), (r2, 2, 0, .ref qa_345), (r0, 9, 0, .ref names_16), (r1, 11, 6, .int lemma_4)]) [0, 1, 6, 7] rfl (M1 := []) [] rfl (I1 := [([(2, 0), (2, 1)], jOw (dC, dI) G0 2 r2 s.heap)]) [0] rfl) (hNn_345) (((((((hle_35).tr hb_2792).tr hle_290).tr hle_302).tr hb_3152).tr hb_3312).tr hb_3452) hgq_345_0 (⟨(by first | omega | rfl | assumption | fail), (by first | omega | rfl | assumption | fail), (by first | omega | rfl | assumption | fail), (by first | omega | rfl | assumption | fail), (by first | assumption | fail | omega), (by first | omega | rfl | assumption | fail), (by first | omega | rfl | assumption | fail), (by first | omega | rfl | assumption | fail), (by first | omega | rfl | assumption | fail)⟩) (by omega) _ (lv_sub hl [1, 2, 3, 0] rfl)
                      · skip
                        have c_314' : v5_302.toInt < z_313.toInt := jb_ge_n (rfl) (rfl) c_314
                        refine lv_iload hx hb dX7_proof_130 (lv_at hl 5 rfl) ?_
                        refine lv_aload hx hb dX7_proof_132 (lv_at hl 4 rfl) ?_
                        obtain ⟨v_360, hv_360, hh_361⟩ := hh_311.pin (C := RX3) (T := TX3) (N := 4) hB5 rfl (by decide) hg_306 (i := 2) (by decide) rfl
                        clear hh_311
                        obtain ⟨hypotheses_362, khypotheses_362, rfl, hg_hypotheses_362, hhahypotheses_362, hhbhypotheses_362, hhchypotheses_362, hhdhypotheses_362, hhehypotheses_362⟩ := hv_360
                        obtain rfl : khypotheses_362 = 313 := hhbhypotheses_362 (by omega)
                        refine j7_read hx hb hown hK (C := RX3) (T := TX3) (N := 4) rfl hly_5_2 hlk_68 (hh_361.at 0 rfl) dX7_proof_134 ?_
                        refine j7_qlen hx hb hK5.1 hh_361 hB313 0 rfl (by decide) hg_hypotheses_362 (by omega) dX7_proof_137 (fun z_363 hz_363 => ?_)
                        refine lv_icmp_ge (tgt := 189) hx hb dX7_proof_138 (by decide) (fun c_364 => ?_) (fun c_364 => ?_)
                        · skip
                          have c_364' : v5_302.toInt ≥ z_363.toInt := jb_ge (rfl) (rfl) c_364
                          refine lv_aload_n hx hb dX7_proof_189 rfl (lv_at hl 2 rfl) ?_
                          refine va_ldcS hx hb hown rstr80 dX7_proof_190 ?_
                          have hsz_365 := hh_361.2.2.2.2.2.1
                          have htt_365 := hh_361.2.2.2.2.2.2.1
                          refine W.room (fun hrc_365 hrs_365 => ?_)
                          refine va_callv (A0 := jA base) (H0 := s.heap) (va_runV (As := [.ref str80]) (rest := []) ⟨hx, hb, hml, hown, hts⟩ (uX0_text l dC dI ca base B hB hAp hB2 hB196 Gx_302 H_302 r2 str80 3 wc_302 wr_302 m_wr_302 LC LS) (cwV 1 hts (jgV (jWr_31 _ (List.mem_of_getElem? (i := 16) rfl)) (jWr_25 _ (List.mem_of_getElem? (i := 22) rfl)) (jWr_25 _ (List.mem_of_getElem? (i := 23) rfl)) (jWr_1 _ (List.mem_of_getElem? (i := 14) rfl)) (jWr_26 _ (List.mem_of_getElem? (i := 0) rfl))) rfl rfl rfl (by decide +kernel) ⟨by rw [← hR]; exact Nat.le_of_ble_eq_true rfl, by rw [← hR]; exact Nat.le_of_ble_eq_true rfl⟩) ⟨fun a U g mk q => by obtain ⟨q0, q1, q2, qK, q10, q11, q12, q13, q14⟩ := q; exact ⟨q0, q1, q2, jG.calling g mk a qK, (q10.moved (Vm.Alike.refl U.vm)), q11, q12, q13, q14⟩, hh_361.recv (C := RX0) (T := TX0) (N := 2) hB2 rfl (by decide) hg_305 hK, fun U hU hW => ⟨rfl, hU, hh_361.2.1, hG.step hW hU hh_361.1, (hstr80.moved hW.alike).kept hh_361.1.2.1, hg_305, hg_wr_302, (hh_361.2.2.1.sub (L1 := [(r2, 2, 1, .int wc_302), (r2, 2, 0, .ref wr_302)]) [2, 3] rfl), (by omega), (by omega), ⟨(by first | omega | rfl | assumption | fail), (by first | omega | rfl | assumption | fail), (by first | omega | rfl | assumption | fail), (by first | omega | rfl | assumption | fail), (by first | assumption | fail | omega), (by first | omega | rfl | assumption | fail)⟩⟩⟩ rfl rfl hl.1 rfl (lv_room (Nat.le_of_ble_eq_true rfl)) dX7_proof_192 ⟨by rw [hRc]; omega, by rw [hRs]; omega⟩) hh_361.1 (fun q _ h => h) (fun q h => h) (fun u_365 t_365 H_365 locs_365 ht_365 hvm_365 hr_366 hb_365 hz_365 hk_365 hS_365 => ?_)
                          obtain ⟨qc_365, qa_365, m_qa_365, G_365⟩ := u_365
                          rw [ht_365] at hb_365
                          simp only at hb_365
                          obtain ⟨⟨hb_3651, hb_3652, hb_3653, hb_3654, hb_3655, hb_3656⟩, hgq_365_0, hN_365, hbO_365⟩ := hb_365
                          have hh_365 : jSt (dC, dI) B base G0 G_365 EX7_proof s.heap (zcx_302 + ((m_qa_365 - m_wr_302) / 16)) (zsx_302 + (2 * (m_qa_365 - m_wr_302))) [(r2, 2, 1, .int qc_365), (r2, 2, 0, .ref qa_365), (el_57, 5, 2, .ref hypotheses_362), (el_57, 5, 1, .ref names_312), (el_57, 5, 0, .ref variables_299), (r1, 11, 8, .ref goals_42), (r0, 9, 0, .ref names_16), (r1, 11, 6, .int lemma_4)] [] [] H_365 locs_365 := (hh_361.callG hb_3651 hb_3652 hb_3653 hb_3654 hb_3655 hS_365 rfl (L1 := [(el_57, 5, 2, .ref hypotheses_362), (el_57, 5, 1, .ref names_312), (el_57, 5, 0, .ref variables_299), (r1, 11, 8, .ref goals_42), (r0, 9, 0, .ref names_16), (r1, 11, 6, .int lemma_4)]) [0, 1, 4, 5, 6, 7] rfl rfl (M1 := []) [] rfl rfl (I1 := []) [] rfl rfl).more hb_3656
                          have hNn_365 : (jNk [0, 1, 2, 3, 4, 5, 6, 7, 8, 9, 10, 11, 12, 13, 14, 15, 16]) G0 G_365 := (hN_302).tr hN_365
                          have hg_367 := hb_3652 _ _ hg_303
                          have hg_368 := hb_3652 _ _ hg_304
                          have hg_369 := hb_3652 _ _ hg_305
                          have hg_370 := hb_3652 _ _ hg_306
                          have hg_371 := hb_3652 _ _ hg_hypotheses_362
                          have hg_372 := hb_3652 _ _ hg_names_312
                          have hg_373 := hb_3652 _ _ hg_307
                          have hg_374 := hb_3652 _ _ hg_308
                          have hg_375 := hb_3652 _ _ hg_309
                          have hd_376 := jOw.tr (hh_361.iv 0 rfl) hh_361.2.2.2.2.1 hbO_365
                          have hh_377 := hh_365.addI (jOw.ie (dC := dC) (dI := dI) (G0 := G0) (k := 2) (r := r2) (H0 := s.heap) (F := [(2, 0), (2, 1)]) (C := RX0) (T := TX0) (N := 2) rfl (by decide) hh_365.2.2.2.2.1 (hd_376))
                          clear hh_365
                          try simp only at hr_366
                          obtain ⟨hr_366_0, hr_366_1, hr_366_2, hr_366_3, hr_366_4⟩ := hr_366
                          have hh_378 := hh_377.wk (zc1 := (m_qa_365 - n_pa) / 16) (zs1 := 2 * (m_qa_365 - n_pa)) (by omega) (by omega)
                          clear hh_377
                          try clear hsz_365 htt_365 hrc_365 hrs_365
                          try clear hb_3654 hb_3655
                          refine lv_aload_n hx hb dX7_proof_195 rfl (lv_at hl 0 rfl) ?_
                          refine lv_aload hx hb dX7_proof_196 (lv_at hl 4 rfl) ?_
                          obtain ⟨v_379, hv_379, hh_380⟩ := hh_378.pin (C := RX3) (T := TX3) (N := 4) hB5 rfl (by decide) hg_370 (i := 3) (by decide) rfl
                          clear hh_378
                          rcases hv_379 with ⟨rfl, hcv_379⟩ | ⟨formula_381, nformula_381, rfl, hg_formula_381, hn_formula_381, hcv_379, hdv_379⟩
                          · exact absurd hcv_379 (by omega)
                          refine j7_read hx hb hown hK (C := RX3) (T := TX3) (N := 4) rfl hly_5_3 hlk_82 (hh_380.at 0 rfl) dX7_proof_198 ?_
                          refine lv_aload_n hx hb dX7_proof_201 rfl (lv_at hl 2 rfl) ?_
                          have hsz_382 := hh_380.2.2.2.2.2.1
                          have htt_382 := hh_380.2.2.2.2.2.2.1
                          refine W.room (fun hrc_382 hrs_382 => ?_)
                          refine va_callv (A0 := jA base) (H0 := s.heap) (va_runV (As := [.ref formula_381, .ref r2]) (rest := []) ⟨hx, hb, hml, hown, hts⟩ (uX7_formula l dC dI ca base B hB hAp hB2 hB8 hB9 hB102 hB132 hB196 hB280 hB286 hB287 hB288 G_365 H_365 r0 formula_381 r2 nformula_381 qc_365 qa_365 m_qa_365 LC LS) (cwV 2 hts (jgV (jWr_31 _ (List.mem_of_getElem? (i := 3) rfl)) (jWr_31 _ (List.mem_of_getElem? (i := 4) rfl)) (jWr_31 _ (List.mem_of_getElem? (i := 5) rfl)) (jWr_2 _ (List.mem_of_getElem? (i := 8) rfl)) (jWr_31 _ (List.mem_of_getElem? (i := 6) rfl))) rfl rfl rfl (by decide +kernel) ⟨by rw [← hR]; exact Nat.le_of_ble_eq_true rfl, by rw [← hR]; exact Nat.le_of_ble_eq_true rfl⟩) ⟨fun a U g mk q => by obtain ⟨q0, q1, q2, qK, q10, q11, q12, q13, q14, q15⟩ := q; exact ⟨q0, q1, q2, jG.calling g mk a qK, q10, q11, q12, q13, q14, q15⟩, hh_380.recv (C := RX7) (T := TX7) (N := 5) hB9 rfl (by decide) hg_367 hK, fun U hU hW => ⟨rfl, hU, hh_380.2.1, hG.step hW hU hh_380.1, hg_369, hg_formula_381, hg_367, hgq_365_0, (hh_380.2.2.1.sub (L1 := [(r2, 2, 1, .int qc_365), (r2, 2, 0, .ref qa_365)]) [1, 2] rfl), (by omega), (by omega), ⟨(by first | omega | rfl | assumption | fail), (by first | omega | rfl | assumption | fail), (by first | omega | rfl | assumption | fail), (by first | omega | rfl | assumption | fail), (by first | assumption | fail | omega), (by first | omega | rfl | assumption | fail)⟩⟩⟩ rfl rfl hl.1 rfl (lv_room (Nat.le_of_ble_eq_true rfl)) dX7_proof_202 ⟨by rw [hRc]; omega, by rw [hRs]; omega⟩) hh_380.1 (fun q _ h => h) (fun q h => h) (fun u_382 t_382 H_382 locs_382 ht_382 hvm_382 hr_383 hb_382 hz_382 hk_382 hS_382 => ?_)
                          obtain ⟨qc_382, qa_382, m_qa_382, G_382⟩ := u_382
                          rw [ht_382] at hb_382
                          simp only at hb_382
                          obtain ⟨⟨hb_3821, hb_3822, hb_3823, hb_3824, hb_3825, hb_3826⟩, hgq_382_0, hN_382, hbO_382⟩ := hb_382
                          have hh_382 : jSt (dC, dI) B base G0 G_382 EX7_proof s.heap (((m_qa_365 - n_pa) / 16) + ((m_qa_382 - m_qa_365) / 16)) ((2 * (m_qa_365 - n_pa)) + (2 * (m_qa_382 - m_qa_365))) [(r2, 2, 1, .int qc_382), (r2, 2, 0, .ref qa_382), (el_57, 5, 3, .ref formula_381), (el_57, 5, 2, .ref hypotheses_362), (el_57, 5, 1, .ref names_312), (el_57, 5, 0, .ref variables_299), (r1, 11, 8, .ref goals_42), (r0, 9, 0, .ref names_16), (r1, 11, 6, .int lemma_4)] [] [] H_382 locs_382 := (hh_380.callG hb_3821 hb_3822 hb_3823 hb_3824 hb_3825 hS_382 rfl (L1 := [(el_57, 5, 3, .ref formula_381), (el_57, 5, 2, .ref hypotheses_362), (el_57, 5, 1, .ref names_312), (el_57, 5, 0, .ref variables_299), (r1, 11, 8, .ref goals_42), (r0, 9, 0, .ref names_16), (r1, 11, 6, .int lemma_4)]) [0, 3, 4, 5, 6, 7, 8] rfl rfl (M1 := []) [] rfl rfl (I1 := []) [] rfl rfl).more hb_3826
                          have hNn_382 : (jNk [0, 1, 2, 3, 4, 5, 6, 7, 8, 9, 10, 11, 12, 13, 14, 15, 16]) G0 G_382 := (hNn_365).tr hN_382
                          have hg_384 := hb_3822 _ _ hg_367
                          have hg_385 := hb_3822 _ _ hg_368
                          have hg_386 := hb_3822 _ _ hg_369
                          have hg_387 := hb_3822 _ _ hg_370
                          have hg_388 := hb_3822 _ _ hg_formula_381
                          have hg_389 := hb_3822 _ _ hg_371
                          have hg_390 := hb_3822 _ _ hg_372
                          have hg_391 := hb_3822 _ _ hg_373
                          have hg_392 := hb_3822 _ _ hg_374
                          have hg_393 := hb_3822 _ _ hg_375
                          have hd_394 := jOw.tr (hh_380.iv 0 rfl) hh_380.2.2.2.2.1 hbO_382
                          have hh_395 := hh_382.addI (jOw.ie (dC := dC) (dI := dI) (G0 := G0) (k := 2) (r := r2) (H0 := s.heap) (F := [(2, 0), (2, 1)]) (C := RX0) (T := TX0) (N := 2) rfl (by decide) hh_382.2.2.2.2.1 (hd_394))
                          clear hh_382
                          try simp only at hr_383
                          obtain ⟨hr_383_0, hr_383_1, hr_383_2, hr_383_3, hr_383_4⟩ := hr_383
                          have hh_396 := hh_395.wk (zc1 := (m_qa_382 - n_pa) / 16) (zs1 := 2 * (m_qa_382 - n_pa)) (by omega) (by omega)
                          clear hh_395
                          try clear hsz_382 htt_382 hrc_382 hrs_382
                          try clear hb_3824 hb_3825
                          refine lv_aload_n hx hb dX7_proof_205 rfl (lv_at hl 2 rfl) ?_
                          refine lv_bipush (v := 34) hx hb dX7_proof_206 (by decide) ?_
                          have hsz_397 := hh_396.2.2.2.2.2.1
                          have htt_397 := hh_396.2.2.2.2.2.2.1
                          refine W.room (fun hrc_397 hrs_397 => ?_)
                          refine va_callv (A0 := jA base) (H0 := s.heap) (va_runV (As := [.int 34]) (rest := []) ⟨hx, hb, hml, hown, hts⟩ (uX0_put l dC dI ca base B hB hAp hB2 hB196 G_382 H_382 r2 34 qc_382 qa_382 m_qa_382 LC LS) (cwV 1 hts (jgV (jWr_31 _ (List.mem_of_getElem? (i := 2) rfl)) (jWr_16 _ (List.mem_of_getElem? (i := 0) rfl)) (jWr_16 _ (List.mem_of_getElem? (i := 1) rfl)) (jWr_1 _ (List.mem_of_getElem? (i := 14) rfl)) (jWr_16 _ (List.mem_of_getElem? (i := 2) rfl))) rfl rfl rfl (by decide +kernel) ⟨by rw [← hR]; exact Nat.le_of_ble_eq_true rfl, by rw [← hR]; exact Nat.le_of_ble_eq_true rfl⟩) ⟨fun a U g mk q => by obtain ⟨q0, q1, q2, qK, q10, q11, q12, q13⟩ := q; exact ⟨q0, q1, q2, jG.calling g mk a qK, q10, q11, q12, q13⟩, hh_396.recv (C := RX0) (T := TX0) (N := 2) hB2 rfl (by decide) hg_386 hK, fun U hU hW => ⟨rfl, hU, hh_396.2.1, hG.step hW hU hh_396.1, hg_386, hgq_382_0, (hh_396.2.2.1.sub (L1 := [(r2, 2, 1, .int qc_382), (r2, 2, 0, .ref qa_382)]) [0, 1] rfl), (by omega), (by omega), ⟨(by first | omega | rfl | assumption | fail), (by first | omega | rfl | assumption | fail), (by first | omega | rfl | assumption | fail), (by first | omega | rfl | assumption | fail), (by first | assumption | fail | omega)⟩⟩⟩ rfl rfl hl.1 rfl (lv_room (Nat.le_of_ble_eq_true rfl)) dX7_proof_208 ⟨by rw [hRc]; omega, by rw [hRs]; omega⟩) hh_396.1 (fun q _ h => h) (fun q h => h) (fun u_397 t_397 H_397 locs_397 ht_397 hvm_397 hr_398 hb_397 hz_397 hk_397 hS_397 => ?_)
                          obtain ⟨qc_397, qa_397, m_qa_397, G_397⟩ := u_397
                          rw [ht_397] at hb_397
                          simp only at hb_397
                          obtain ⟨⟨hb_3971, hb_3972, hb_3973, hb_3974, hb_3975, hb_3976⟩, hgq_397_0, hN_397, hbO_397⟩ := hb_397
                          have hh_397 : jSt (dC, dI) B base G0 G_397 EX7_proof s.heap (((m_qa_382 - n_pa) / 16) + ((m_qa_397 - m_qa_382) / 16)) ((2 * (m_qa_382 - n_pa)) + (2 * (m_qa_397 - m_qa_382))) [(r2, 2, 1, .int qc_397), (r2, 2, 0, .ref qa_397), (el_57, 5, 3, .ref formula_381), (el_57, 5, 2, .ref hypotheses_362), (el_57, 5, 1, .ref names_312), (el_57, 5, 0, .ref variables_299), (r1, 11, 8, .ref goals_42), (r0, 9, 0, .ref names_16), (r1, 11, 6, .int lemma_4)] [] [] H_397 locs_397 := (hh_396.callG hb_3971 hb_3972 hb_3973 hb_3974 hb_3975 hS_397 rfl (L1 := [(el_57, 5, 3, .ref formula_381), (el_57, 5, 2, .ref hypotheses_362), (el_57, 5, 1, .ref names_312), (el_57, 5, 0, .ref variables_299), (r1, 11, 8, .ref goals_42), (r0, 9, 0, .ref names_16), (r1, 11, 6, .int lemma_4)]) [2, 3, 4, 5, 6, 7, 8] rfl rfl (M1 := []) [] rfl rfl (I1 := []) [] rfl rfl).more hb_3976
                          have hNn_397 : (jNk [0, 1, 2, 3, 4, 5, 6, 7, 8, 9, 10, 11, 12, 13, 14, 15, 16]) G0 G_397 := (hNn_382).tr hN_397
                          have hg_399 := hb_3972 _ _ hg_384
                          have hg_400 := hb_3972 _ _ hg_385
                          have hg_401 := hb_3972 _ _ hg_386
                          have hg_402 := hb_3972 _ _ hg_387
                          have hg_403 := hb_3972 _ _ hg_388
                          have hg_404 := hb_3972 _ _ hg_389
                          have hg_405 := hb_3972 _ _ hg_390
                          have hg_406 := hb_3972 _ _ hg_391
                          have hg_407 := hb_3972 _ _ hg_392
                          have hg_408 := hb_3972 _ _ hg_393
                          have hd_409 := jOw.tr (hh_396.iv 0 rfl) hh_396.2.2.2.2.1 hbO_397
                          have hh_410 := hh_397.addI (jOw.ie (dC := dC) (dI := dI) (G0 := G0) (k := 2) (r := r2) (H0 := s.heap) (F := [(2, 0), (2, 1)]) (C := RX0) (T := TX0) (N := 2) rfl (by decide) hh_397.2.2.2.2.1 (hd_409))
                          clear hh_397
                          try simp only at hr_398
                          obtain ⟨hr_398_0, hr_398_1, hr_398_2, hr_398_3, hr_398_4⟩ := hr_398
                          have hh_411 := hh_410.wk (zc1 := (m_qa_397 - n_pa) / 16) (zs1 := 2 * (m_qa_397 - n_pa)) (by omega) (by omega)
                          clear hh_410
                          try clear hsz_397 htt_397 hrc_397 hrs_397
                          try clear hb_3974 hb_3975
                          obtain ⟨z_412, ez_412⟩ : ∃ y : Int32, y = v3_35 + 1 := ⟨_, rfl⟩
                          refine lv_iinc (v := z_412) (lv' := [(3, .int z_412), (0, .ref r0), (1, .ref r1), (2, .ref r2), (4, .ref el_57), (5, .int v5_302)]) hx hb dX7_proof_211 hl (k := 3) rfl (by rw [ez_412]; rfl) (by decide) rfl (fun ls hl => ?_)
                          have hz_412 : z_412.toInt = v3_35.toInt + 1 := by rw [ez_412]; exact jb_iadd2 (rfl) (by decide) (by omega)
                          refine lv_goto (tgt := 41) hx hb dX7_proof_214 (by decide) ?_
                          refine W.tight (c2 := ((m_qa_397 - n_pa) / 16)) (n2 := (2 * (m_qa_397 - n_pa))) hh_411.2.2.2.2.2.1 hh_411.2.2.2.2.2.2.1 ?_
                          exact L41 G_397 ((m_qa_397 - n_pa) / 16) (2 * (m_qa_397 - n_pa)) z_412 qc_397 qa_397 m_qa_397 _ _ (hh_411.sub (L1 := [(r2, 2, 1, .int qc_397), (r2, 2, 0, .ref qa_397), (r0, 9, 0, .ref names_16), (r1, 11, 6, .int lemma_4)]) [0, 1, 7, 8] rfl (M1 := []) [] rfl (I1 := [([(2, 0), (2, 1)], jOw (dC, dI) G0 2 r2 s.heap)]) [0] rfl) (hNn_397) (((((((hle_35).tr hb_2792).tr hle_290).tr hle_302).tr hb_3652).tr hb_3822).tr hb_3972) hgq_397_0 (⟨(by first | omega | rfl | assumption | fail), (by first | omega | rfl | assumption | fail), (by first | omega | rfl | assumption | fail), (by first | omega | rfl | assumption | fail), (by first | assumption | fail | omega), (by first | omega | rfl | assumption | fail), (by first | omega | rfl | assumption | fail), (by first | omega | rfl | assumption | fail), (by first | omega | rfl | assumption | fail)⟩) (by omega) _ (lv_sub hl [1, 2, 3, 0] rfl)
                        · skip
                          have c_364' : v5_302.toInt < z_363.toInt := jb_ge_n (rfl) (rfl) c_364
                          refine lv_aload_n hx hb dX7_proof_141 rfl (lv_at hl 0 rfl) ?_
                          refine j7_read hx hb hown hK (C := RX7) (T := TX7) (N := 5) rfl hly_9_0 hlk_21 (hh_361.at 6 rfl) dX7_proof_142 ?_
                          refine lv_aload hx hb dX7_proof_145 (lv_at hl 4 rfl) ?_
                          refine j7_read hx hb hown hK (C := RX3) (T := TX3) (N := 4) rfl hly_5_1 hlk_66 (hh_361.at 1 rfl) dX7_proof_147 ?_
                          refine lv_iload hx hb dX7_proof_150 (lv_at hl 5 rfl) ?_
                          refine j7_iald hx hb hK hh_361 hB101 1 rfl (by decide) hg_names_312 (x := v5_302.toInt) (rfl) (by omega) dX7_proof_152 (fun z_413 (hz_413 : True) => ?_)
                          refine lv_iconst (v := 0) hx hb dX7_proof_153 (by decide) ?_
                          refine lv_aload_n hx hb dX7_proof_154 rfl (lv_at hl 2 rfl) ?_
                          have hsz_414 := hh_361.2.2.2.2.2.1
                          have htt_414 := hh_361.2.2.2.2.2.2.1
                          refine W.room (fun hrc_414 hrs_414 => ?_)
                          refine va_callv (A0 := jA base) (H0 := s.heap) (va_runV (As := [.int z_413, .int 0, .ref r2]) (rest := []) ⟨hx, hb, hml, hown, hts⟩ (uX6_write l dC dI ca base B hB hAp hB2 hB8 hB102 hB132 hB196 Gx_302 H_302 names_16 z_413 0 r2 wc_302 wr_302 m_wr_302 LC LS) (cwV 3 hts (jgV (jWr_31 _ (List.mem_of_getElem? (i := 17) rfl)) (jWr_31 _ (List.mem_of_getElem? (i := 18) rfl)) (jWr_31 _ (List.mem_of_getElem? (i := 19) rfl)) (jWr_4 _ (List.mem_of_getElem? (i := 10) rfl)) (jWr_31 _ (List.mem_of_getElem? (i := 20) rfl))) rfl rfl rfl (by decide +kernel) ⟨by rw [← hR]; exact Nat.le_of_ble_eq_true rfl, by rw [← hR]; exact Nat.le_of_ble_eq_true rfl⟩) ⟨fun a U g mk q => by obtain ⟨q0, q1, q2, qK, q10, q11, q12, q13, q14⟩ := q; exact ⟨q0, q1, q2, jG.calling g mk a qK, q10, q11, q12, q13, q14⟩, hh_361.recv (C := RX6) (T := TX6) (N := 4) hB8 rfl (by decide) hg_309 hK, fun U hU hW => ⟨rfl, hU, hh_361.2.1, hG.step hW hU hh_361.1, hg_305, hg_309, hg_wr_302, (hh_361.2.2.1.sub (L1 := [(r2, 2, 1, .int wc_302), (r2, 2, 0, .ref wr_302)]) [2, 3] rfl), (by omega), (by omega), ⟨(by first | omega | rfl | assumption | fail), (by first | omega | rfl | assumption | fail), (by first | omega | rfl | assumption | fail), (by first | omega | rfl | assumption | fail), (by first | assumption | fail | omega)⟩⟩⟩ rfl rfl hl.1 rfl (lv_room (Nat.le_of_ble_eq_true rfl)) dX7_proof_155 ⟨by rw [hRc]; omega, by rw [hRs]; omega⟩) hh_361.1 (fun q _ h => h) (fun q h => h) (fun u_414 t_414 H_414 locs_414 ht_414 hvm_414 hr_415 hb_414 hz_414 hk_414 hS_414 => ?_)
                          obtain ⟨qc_414, qa_414, m_qa_414, G_414⟩ := u_414
                          rw [ht_414] at hb_414
                          simp only at hb_414
                          obtain ⟨⟨hb_4141, hb_4142, hb_4143, hb_4144, hb_4145, hb_4146⟩, hgq_414_0, hN_414, hbO_414⟩ := hb_414
                          have hh_414 : jSt (dC, dI) B base G0 G_414 EX7_proof s.heap (zcx_302 + ((m_qa_414 - m_wr_302) / 16)) (zsx_302 + (2 * (m_qa_414 - m_wr_302))) [(r2, 2, 1, .int qc_414), (r2, 2, 0, .ref qa_414), (el_57, 5, 2, .ref hypotheses_362), (el_57, 5, 1, .ref names_312), (el_57, 5, 0, .ref variables_299), (r1, 11, 8, .ref goals_42), (r0, 9, 0, .ref names_16), (r1, 11, 6, .int lemma_4)] [] [] H_414 locs_414 := (hh_361.callG hb_4141 hb_4142 hb_4143 hb_4144 hb_4145 hS_414 rfl (L1 := [(el_57, 5, 2, .ref hypotheses_362), (el_57, 5, 1, .ref names_312), (el_57, 5, 0, .ref variables_299), (r1, 11, 8, .ref goals_42), (r0, 9, 0, .ref names_16), (r1, 11, 6, .int lemma_4)]) [0, 1, 4, 5, 6, 7] rfl rfl (M1 := []) [] rfl rfl (I1 := []) [] rfl rfl).more hb_4146
                          have hNn_414 : (jNk [0, 1, 2, 3, 4, 5, 6, 7, 8, 9, 10, 11, 12, 13, 14, 15, 16]) G0 G_414 := (hN_302).tr hN_414
                          have hg_416 := hb_4142 _ _ hg_303
                          have hg_417 := hb_4142 _ _ hg_304
                          have hg_418 := hb_4142 _ _ hg_305
                          have hg_419 := hb_4142 _ _ hg_306
                          have hg_420 := hb_4142 _ _ hg_hypotheses_362
                          have hg_421 := hb_4142 _ _ hg_names_312
                          have hg_422 := hb_4142 _ _ hg_307
                          have hg_423 := hb_4142 _ _ hg_308
                          have hg_424 := hb_4142 _ _ hg_309
                          have hd_425 := jOw.tr (hh_361.iv 0 rfl) hh_361.2.2.2.2.1 hbO_414
                          have hh_426 := hh_414.addI (jOw.ie (dC := dC) (dI := dI) (G0 := G0) (k := 2) (r := r2) (H0 := s.heap) (F := [(2, 0), (2, 1)]) (C := RX0) (T := TX0) (N := 2) rfl (by decide) hh_414.2.2.2.2.1 (hd_425))
                          clear hh_414
                          try simp only at hr_415
                          obtain ⟨hr_415_0, hr_415_1, hr_415_2, hr_415_3, hr_415_4⟩ := hr_415
                          have hh_427 := hh_426.wk (zc1 := (m_qa_414 - n_pa) / 16) (zs1 := 2 * (m_qa_414 - n_pa)) (by omega) (by omega)
                          clear hh_426
                          try clear hsz_414 htt_414 hrc_414 hrs_414
                          try clear hb_4144 hb_4145
                          refine lv_aload_n hx hb dX7_proof_158 rfl (lv_at hl 2 rfl) ?_
                          refine va_ldcS hx hb hown rstr72 dX7_proof_159 ?_
                          have hsz_428 := hh_427.2.2.2.2.2.1
                          have htt_428 := hh_427.2.2.2.2.2.2.1
                          refine W.room (fun hrc_428 hrs_428 => ?_)
                          refine va_callv (A0 := jA base) (H0 := s.heap) (va_runV (As := [.ref str72]) (rest := []) ⟨hx, hb, hml, hown, hts⟩ (uX0_text l dC dI ca base B hB hAp hB2 hB196 G_414 H_414 r2 str72 3 qc_414 qa_414 m_qa_414 LC LS) (cwV 1 hts (jgV (jWr_31 _ (List.mem_of_getElem? (i := 16) rfl)) (jWr_25 _ (List.mem_of_getElem? (i := 22) rfl)) (jWr_25 _ (List.mem_of_getElem? (i := 23) rfl)) (jWr_1 _ (List.mem_of_getElem? (i := 14) rfl)) (jWr_26 _ (List.mem_of_getElem? (i := 0) rfl))) rfl rfl rfl (by decide +kernel) ⟨by rw [← hR]; exact Nat.le_of_ble_eq_true rfl, by rw [← hR]; exact Nat.le_of_ble_eq_true rfl⟩) ⟨fun a U g mk q => by obtain ⟨q0, q1, q2, qK, q10, q11, q12, q13, q14⟩ := q; exact ⟨q0, q1, q2, jG.calling g mk a qK, (q10.moved (Vm.Alike.refl U.vm)), q11, q12, q13, q14⟩, hh_427.recv (C := RX0) (T := TX0) (N := 2) hB2 rfl (by decide) hg_418 hK, fun U hU hW => ⟨rfl, hU, hh_427.2.1, hG.step hW hU hh_427.1, (hstr72.moved hW.alike).kept hh_427.1.2.1, hg_418, hgq_414_0, (hh_427.2.2.1.sub (L1 := [(r2, 2, 1, .int qc_414), (r2, 2, 0, .ref qa_414)]) [0, 1] rfl), (by omega), (by omega), ⟨(by first | omega | rfl | assumption | fail), (by first | omega | rfl | assumption | fail), (by first | omega | rfl | assumption | fail), (by first | omega | rfl | assumption | fail), (by first | assumption | fail | omega), (by first | omega | rfl | assumption | fail)⟩⟩⟩ rfl rfl hl.1 rfl (lv_room (Nat.le_of_ble_eq_true rfl)) dX7_proof_161 ⟨by rw [hRc]; omega, by rw [hRs]; omega⟩) hh_427.1 (fun q _ h => h) (fun q h => h) (fun u_428 t_428 H_428 locs_428 ht_428 hvm_428 hr_429 hb_428 hz_428 hk_428 hS_428 => ?_)
                          obtain ⟨qc_428, qa_428, m_qa_428, G_428⟩ := u_428
                          rw [ht_428] at hb_428
                          simp only at hb_428
                          obtain ⟨⟨hb_4281, hb_4282, hb_4283, hb_4284, hb_4285, hb_4286⟩, hgq_428_0, hN_428, hbO_428⟩ := hb_428
                          have hh_428 : jSt (dC, dI) B base G0 G_428 EX7_proof s.heap (((m_qa_414 - n_pa) / 16) + ((m_qa_428 - m_qa_414) / 16)) ((2 * (m_qa_414 - n_pa)) + (2 * (m_qa_428 - m_qa_414))) [(r2, 2, 1, .int qc_428), (r2, 2, 0, .ref qa_428), (el_57, 5, 2, .ref hypotheses_362), (el_57, 5, 1, .ref names_312), (el_57, 5, 0, .ref variables_299), (r1, 11, 8, .ref goals_42), (r0, 9, 0, .ref names_16), (r1, 11, 6, .int lemma_4)] [] [] H_428 locs_428 := (hh_427.callG hb_4281 hb_4282 hb_4283 hb_4284 hb_4285 hS_428 rfl (L1 := [(el_57, 5, 2, .ref hypotheses_362), (el_57, 5, 1, .ref names_312), (el_57, 5, 0, .ref variables_299), (r1, 11, 8, .ref goals_42), (r0, 9, 0, .ref names_16), (r1, 11, 6, .int lemma_4)]) [2, 3, 4, 5, 6, 7] rfl rfl (M1 := []) [] rfl rfl (I1 := []) [] rfl rfl).more hb_4286
                          have hNn_428 : (jNk [0, 1, 2, 3, 4, 5, 6, 7, 8, 9, 10, 11, 12, 13, 14, 15, 16]) G0 G_428 := (hNn_414).tr hN_428
                          have hg_430 := hb_4282 _ _ hg_416
                          have hg_431 := hb_4282 _ _ hg_417
                          have hg_432 := hb_4282 _ _ hg_418
                          have hg_433 := hb_4282 _ _ hg_419
                          have hg_434 := hb_4282 _ _ hg_420
                          have hg_435 := hb_4282 _ _ hg_421
                          have hg_436 := hb_4282 _ _ hg_422
                          have hg_437 := hb_4282 _ _ hg_423
                          have hg_438 := hb_4282 _ _ hg_424
                          have hd_439 := jOw.tr (hh_427.iv 0 rfl) hh_427.2.2.2.2.1 hbO_428
                          have hh_440 := hh_428.addI (jOw.ie (dC := dC) (dI := dI) (G0 := G0) (k := 2) (r := r2) (H0 := s.heap) (F := [(2, 0), (2, 1)]) (C := RX0) (T := TX0) (N := 2) rfl (by decide) hh_428.2.2.2.2.1 (hd_439))
                          clear hh_428
                          try simp only at hr_429
                          obtain ⟨hr_429_0, hr_429_1, hr_429_2, hr_429_3, hr_429_4⟩ := hr_429
                          have hh_441 := hh_440.wk (zc1 := (m_qa_428 - n_pa) / 16) (zs1 := 2 * (m_qa_428 - n_pa)) (by omega) (by omega)
                          clear hh_440
                          try clear hsz_428 htt_428 hrc_428 hrs_428
                          try clear hb_4284 hb_4285
                          refine lv_aload_n hx hb dX7_proof_164 rfl (lv_at hl 0 rfl) ?_
                          refine lv_aload hx hb dX7_proof_165 (lv_at hl 4 rfl) ?_
                          refine j7_read hx hb hown hK (C := RX3) (T := TX3) (N := 4) rfl hly_5_2 hlk_68 (hh_441.at 2 rfl) dX7_proof_167 ?_
                          refine lv_iload hx hb dX7_proof_170 (lv_at hl 5 rfl) ?_
                          refine j7_qaldA hx hb hK5 hh_441 hB313 (by decide) hg_434 (x := v5_302.toInt) (rfl) (by omega) dX7_proof_172 (fun o_442 ho_442 => ?_)
                          obtain ⟨el_443, nel_443, rfl, hg_el_443, hn_el_443⟩ := ho_442
                          simp only [va_rf]
                          refine lv_aload_n hx hb dX7_proof_173 rfl (lv_at hl 2 rfl) ?_
                          have hsz_444 := hh_441.2.2.2.2.2.1
                          have htt_444 := hh_441.2.2.2.2.2.2.1
                          refine W.room (fun hrc_444 hrs_444 => ?_)
                          refine va_callv (A0 := jA base) (H0 := s.heap) (va_runV (As := [.ref el_443, .ref r2]) (rest := []) ⟨hx, hb, hml, hown, hts⟩ (uX7_formula l dC dI ca base B hB hAp hB2 hB8 hB9 hB102 hB132 hB196 hB280 hB286 hB287 hB288 G_428 H_428 r0 el_443 r2 nel_443 qc_428 qa_428 m_qa_428 LC LS) (cwV 2 hts (jgV (jWr_31 _ (List.mem_of_getElem? (i := 3) rfl)) (jWr_31 _ (List.mem_of_getElem? (i := 4) rfl)) (jWr_31 _ (List.mem_of_getElem? (i := 5) rfl)) (jWr_2 _ (List.mem_of_getElem? (i := 8) rfl)) (jWr_31 _ (List.mem_of_getElem? (i := 6) rfl))) rfl rfl rfl (by decide +kernel) ⟨by rw [← hR]; exact Nat.le_of_ble_eq_true rfl, by rw [← hR]; exact Nat.le_of_ble_eq_true rfl⟩) ⟨fun a U g mk q => by obtain ⟨q0, q1, q2, qK, q10, q11, q12, q13, q14, q15⟩ := q; exact ⟨q0, q1, q2, jG.calling g mk a qK, q10, q11, q12, q13, q14, q15⟩, hh_441.recv (C := RX7) (T := TX7) (N := 5) hB9 rfl (by decide) hg_430 hK, fun U hU hW => ⟨rfl, hU, hh_441.2.1, hG.step hW hU hh_441.1, hg_432, hg_el_443, hg_430, hgq_428_0, (hh_441.2.2.1.sub (L1 := [(r2, 2, 1, .int qc_428), (r2, 2, 0, .ref qa_428)]) [0, 1] rfl), (by omega), (by omega), ⟨(by first | omega | rfl | assumption | fail), (by first | omega | rfl | assumption | fail), (by first | omega | rfl | assumption | fail), (by first | omega | rfl | assumption | fail), (by first | assumption | fail | omega), (by first | omega | rfl | assumption | fail)⟩⟩⟩ rfl rfl hl.1 rfl (lv_room (Nat.le_of_ble_eq_true rfl)) dX7_proof_174 ⟨by rw [hRc]; omega, by rw [hRs]; omega⟩) hh_441.1 (fun q _ h => h) (fun q h => h) (fun u_444 t_444 H_444 locs_444 ht_444 hvm_444 hr_445 hb_444 hz_444 hk_444 hS_444 => ?_)
                          obtain ⟨qc_444, qa_444, m_qa_444, G_444⟩ := u_444
                          rw [ht_444] at hb_444
                          simp only at hb_444
                          obtain ⟨⟨hb_4441, hb_4442, hb_4443, hb_4444, hb_4445, hb_4446⟩, hgq_444_0, hN_444, hbO_444⟩ := hb_444
                          have hh_444 : jSt (dC, dI) B base G0 G_444 EX7_proof s.heap (((m_qa_428 - n_pa) / 16) + ((m_qa_444 - m_qa_428) / 16)) ((2 * (m_qa_428 - n_pa)) + (2 * (m_qa_444 - m_qa_428))) [(r2, 2, 1, .int qc_444), (r2, 2, 0, .ref qa_444), (el_57, 5, 2, .ref hypotheses_362), (el_57, 5, 1, .ref names_312), (el_57, 5, 0, .ref variables_299), (r1, 11, 8, .ref goals_42), (r0, 9, 0, .ref names_16), (r1, 11, 6, .int lemma_4)] [] [] H_444 locs_444 := (hh_441.callG hb_4441 hb_4442 hb_4443 hb_4444 hb_4445 hS_444 rfl (L1 := [(el_57, 5, 2, .ref hypotheses_362), (el_57, 5, 1, .ref names_312), (el_57, 5, 0, .ref variables_299), (r1, 11, 8, .ref goals_42), (r0, 9, 0, .ref names_16), (r1, 11, 6, .int lemma_4)]) [2, 3, 4, 5, 6, 7] rfl rfl (M1 := []) [] rfl rfl (I1 := []) [] rfl rfl).more hb_4446
                          have hNn_444 : (jNk [0, 1, 2, 3, 4, 5, 6, 7, 8, 9, 10, 11, 12, 13, 14, 15, 16]) G0 G_444 := (hNn_428).tr hN_444
                          have hg_446 := hb_4442 _ _ hg_430
                          have hg_447 := hb_4442 _ _ hg_431
                          have hg_448 := hb_4442 _ _ hg_432
                          have hg_449 := hb_4442 _ _ hg_433
                          have hg_450 := hb_4442 _ _ hg_434
                          have hg_451 := hb_4442 _ _ hg_435
                          have hg_452 := hb_4442 _ _ hg_436
                          have hg_453 := hb_4442 _ _ hg_437
                          have hg_454 := hb_4442 _ _ hg_438
                          have hd_455 := jOw.tr (hh_441.iv 0 rfl) hh_441.2.2.2.2.1 hbO_444
                          have hh_456 := hh_444.addI (jOw.ie (dC := dC) (dI := dI) (G0 := G0) (k := 2) (r := r2) (H0 := s.heap) (F := [(2, 0), (2, 1)]) (C := RX0) (T := TX0) (N := 2) rfl (by decide) hh_444.2.2.2.2.1 (hd_455))
                          clear hh_444
                          try simp only at hr_445
                          obtain ⟨hr_445_0, hr_445_1, hr_445_2, hr_445_3, hr_445_4⟩ := hr_445
                          have hh_457 := hh_456.wk (zc1 := (m_qa_444 - n_pa) / 16) (zs1 := 2 * (m_qa_444 - n_pa)) (by omega) (by omega)
                          clear hh_456
                          try clear hsz_444 htt_444 hrc_444 hrs_444
                          try clear hb_4444 hb_4445
                          refine lv_aload_n hx hb dX7_proof_177 rfl (lv_at hl 2 rfl) ?_
                          refine va_ldcS hx hb hown rstr78 dX7_proof_178 ?_
                          have hsz_458 := hh_457.2.2.2.2.2.1
                          have htt_458 := hh_457.2.2.2.2.2.2.1
                          refine W.room (fun hrc_458 hrs_458 => ?_)
                          refine va_callv (A0 := jA base) (H0 := s.heap) (va_runV (As := [.ref str78]) (rest := []) ⟨hx, hb, hml, hown, hts⟩ (uX0_text l dC dI ca base B hB hAp hB2 hB196 G_444 H_444 r2 str78 2 qc_444 qa_444 m_qa_444 LC LS) (cwV 1 hts (jgV (jWr_31 _ (List.mem_of_getElem? (i := 16) rfl)) (jWr_25 _ (List.mem_of_getElem? (i := 22) rfl)) (jWr_25 _ (List.mem_of_getElem? (i := 23) rfl)) (jWr_1 _ (List.mem_of_getElem? (i := 14) rfl)) (jWr_26 _ (List.mem_of_getElem? (i := 0) rfl))) rfl rfl rfl (by decide +kernel) ⟨by rw [← hR]; exact Nat.le_of_ble_eq_true rfl, by rw [← hR]; exact Nat.le_of_ble_eq_true rfl⟩) ⟨fun a U g mk q => by obtain ⟨q0, q1, q2, qK, q10, q11, q12, q13, q14⟩ := q; exact ⟨q0, q1, q2, jG.calling g mk a qK, (q10.moved (Vm.Alike.refl U.vm)), q11, q12, q13, q14⟩, hh_457.recv (C := RX0) (T := TX0) (N := 2) hB2 rfl (by decide) hg_448 hK, fun U hU hW => ⟨rfl, hU, hh_457.2.1, hG.step hW hU hh_457.1, (hstr78.moved hW.alike).kept hh_457.1.2.1, hg_448, hgq_444_0, (hh_457.2.2.1.sub (L1 := [(r2, 2, 1, .int qc_444), (r2, 2, 0, .ref qa_444)]) [0, 1] rfl), (by omega), (by omega), ⟨(by first | omega | rfl | assumption | fail), (by first | omega | rfl | assumption | fail), (by first | omega | rfl | assumption | fail), (by first | omega | rfl | assumption | fail), (by first | assumption | fail | omega), (by first | omega | rfl | assumption | fail)⟩⟩⟩ rfl rfl hl.1 rfl (lv_room (Nat.le_of_ble_eq_true rfl)) dX7_proof_180 ⟨by rw [hRc]; omega, by rw [hRs]; omega⟩) hh_457.1 (fun q _ h => h) (fun q h => h) (fun u_458 t_458 H_458 locs_458 ht_458 hvm_458 hr_459 hb_458 hz_458 hk_458 hS_458 => ?_)
                          obtain ⟨qc_458, qa_458, m_qa_458, G_458⟩ := u_458
                          rw [ht_458] at hb_458
                          simp only at hb_458
                          obtain ⟨⟨hb_4581, hb_4582, hb_4583, hb_4584, hb_4585, hb_4586⟩, hgq_458_0, hN_458, hbO_458⟩ := hb_458
                          have hh_458 : jSt (dC, dI) B base G0 G_458 EX7_proof s.heap (((m_qa_444 - n_pa) / 16) + ((m_qa_458 - m_qa_444) / 16)) ((2 * (m_qa_444 - n_pa)) + (2 * (m_qa_458 - m_qa_444))) [(r2, 2, 1, .int qc_458), (r2, 2, 0, .ref qa_458), (el_57, 5, 2, .ref hypotheses_362), (el_57, 5, 1, .ref names_312), (el_57, 5, 0, .ref variables_299), (r1, 11, 8, .ref goals_42), (r0, 9, 0, .ref names_16), (r1, 11, 6, .int lemma_4)] [] [] H_458 locs_458 := (hh_457.callG hb_4581 hb_4582 hb_4583 hb_4584 hb_4585 hS_458 rfl (L1 := [(el_57, 5, 2, .ref hypotheses_362), (el_57, 5, 1, .ref names_312), (el_57, 5, 0, .ref variables_299), (r1, 11, 8, .ref goals_42), (r0, 9, 0, .ref names_16), (r1, 11, 6, .int lemma_4)]) [2, 3, 4, 5, 6, 7] rfl rfl (M1 := []) [] rfl rfl (I1 := []) [] rfl rfl).more hb_4586
                          have hNn_458 : (jNk [0, 1, 2, 3, 4, 5, 6, 7, 8, 9, 10, 11, 12, 13, 14, 15, 16]) G0 G_458 := (hNn_444).tr hN_458
                          have hg_460 := hb_4582 _ _ hg_446
                          have hg_461 := hb_4582 _ _ hg_447
                          have hg_462 := hb_4582 _ _ hg_448
                          have hg_463 := hb_4582 _ _ hg_449
                          have hg_464 := hb_4582 _ _ hg_450
                          have hg_465 := hb_4582 _ _ hg_451
                          have hg_466 := hb_4582 _ _ hg_452
                          have hg_467 := hb_4582 _ _ hg_453
                          have hg_468 := hb_4582 _ _ hg_454
                          have hd_469 := jOw.tr (hh_457.iv 0 rfl) hh_457.2.2.2.2.1 hbO_458
                          have hh_470 := hh_458.addI (jOw.ie (dC := dC) (dI := dI) (G0 := G0) (k := 2) (r := r2) (H0 := s.heap) (F := [(2, 0), (2, 1)]) (C := RX0) (T := TX0) (N := 2) rfl (by decide) hh_458.2.2.2.2.1 (hd_469))
                          clear hh_458
                          try simp only at hr_459
                          obtain ⟨hr_459_0, hr_459_1, hr_459_2, hr_459_3, hr_459_4⟩ := hr_459
                          have hh_471 := hh_470.wk (zc1 := (m_qa_458 - n_pa) / 16) (zs1 := 2 * (m_qa_458 - n_pa)) (by omega) (by omega)
                          clear hh_470
                          try clear hsz_458 htt_458 hrc_458 hrs_458
                          try clear hb_4584 hb_4585
                          obtain ⟨z_472, ez_472⟩ : ∃ y : Int32, y = v5_302 + 1 := ⟨_, rfl⟩
                          refine lv_iinc (v := z_472) (lv' := [(5, .int z_472), (0, .ref r0), (1, .ref r1), (2, .ref r2), (3, .int v3_35), (4, .ref el_57)]) hx hb dX7_proof_183 hl (k := 5) rfl (by rw [ez_472]; rfl) (by decide) rfl (fun ls hl => ?_)
                          have hz_472 : z_472.toInt = v5_302.toInt + 1 := by rw [ez_472]; exact jb_iadd2 (rfl) (by decide) (by omega)
                          refine lv_goto (tgt := 119) hx hb dX7_proof_186 (by decide) ?_
                          refine W.tight (c2 := ((m_qa_458 - n_pa) / 16)) (n2 := (2 * (m_qa_458 - n_pa))) hh_471.2.2.2.2.2.1 hh_471.2.2.2.2.2.2.1 ?_
                          exact L119 G_458 ((m_qa_458 - n_pa) / 16) (2 * (m_qa_458 - n_pa)) z_472 qc_458 qa_458 m_qa_458 _ _ (hh_471.sub (L1 := [(r2, 2, 1, .int qc_458), (r2, 2, 0, .ref qa_458), (el_57, 5, 0, .ref variables_299), (r1, 11, 8, .ref goals_42), (r0, 9, 0, .ref names_16), (r1, 11, 6, .int lemma_4)]) [0, 1, 4, 5, 6, 7] rfl (M1 := []) [] rfl (I1 := [([(2, 0), (2, 1)], jOw (dC, dI) G0 2 r2 s.heap)]) [0] rfl) (hNn_458) (((((hle_302).tr hb_4142).tr hb_4282).tr hb_4442).tr hb_4582) hgq_458_0 (⟨(by first | omega | rfl | assumption | fail), (by first | omega | rfl | assumption | fail), (by first | omega | rfl | assumption | fail), (by first | omega | rfl | assumption | fail), (by first | assumption | fail | omega), (by first | omega | rfl | assumption | fail), (by first | omega | rfl | assumption | fail), (by first | omega | rfl | assumption | fail), (by first | omega | rfl | assumption | fail)⟩) (by omega) _ (lv_sub hl [1, 2, 3, 4, 5, 0] rfl)
                  refine W.tight (c2 := zcx_290) (n2 := zsx_290) hh_298.2.2.2.2.2.1 hh_298.2.2.2.2.2.2.1 ?_
                  exact L119 (10 - (0 : Int32).toInt : Int).toNat.succ Gx_290 zcx_290 zsx_290 0 wc_290 wr_290 m_wr_290 _ _ (hh_298.sub (L1 := [(r2, 2, 1, .int wc_290), (r2, 2, 0, .ref wr_290), (el_57, 5, 0, .ref variables_299), (r1, 11, 8, .ref goals_42), (r0, 9, 0, .ref names_16), (r1, 11, 6, .int lemma_4)]) [1, 2, 0, 3, 4, 5] rfl (M1 := []) [] rfl (I1 := [([(2, 0), (2, 1)], jOw (dC, dI) G0 2 r2 s.heap)]) [0] rfl) (hN_290) (jLe.rf) hg_wr_290 (⟨(by first | omega | rfl | assumption | fail), (by first | omega | rfl | assumption | fail), (by first | omega | rfl | assumption | fail), (by first | omega | rfl | assumption | fail), (by first | assumption | fail | omega), (by first | omega | rfl | assumption | fail), (by first | omega | rfl | assumption | fail), (by first | omega | rfl | assumption | fail), (by first | omega | rfl | assumption | fail)⟩) (by omega) _ (lv_sub hl [1, 2, 3, 4, 5, 0] rfl)
                · skip
                  have c_301' : v5_290.toInt < z_300.toInt := jb_ge_n (rfl) (rfl) c_301
                  refine lv_aload_n hx hb dX7_proof_87 rfl (lv_at hl 0 rfl) ?_
                  refine j7_read hx hb hown hK (C := RX7) (T := TX7) (N := 5) rfl hly_9_0 hlk_21 (hh_298.at 4 rfl) dX7_proof_88 ?_
                  refine lv_aload hx hb dX7_proof_91 (lv_at hl 4 rfl) ?_
                  refine j7_read hx hb hown hK (C := RX3) (T := TX3) (N := 4) rfl hly_5_0 hlk_57 (hh_298.at 0 rfl) dX7_proof_93 ?_
                  refine lv_iload hx hb dX7_proof_96 (lv_at hl 5 rfl) ?_
                  refine j7_iald hx hb hK hh_298 hB101 1 rfl (by decide) hg_variables_299 (x := v5_290.toInt) (rfl) (by omega) dX7_proof_98 (fun z_473 (hz_473 : True) => ?_)
                  refine lv_iconst (v := 0) hx hb dX7_proof_99 (by decide) ?_
                  refine lv_aload_n hx hb dX7_proof_100 rfl (lv_at hl 2 rfl) ?_
                  have hsz_474 := hh_298.2.2.2.2.2.1
                  have htt_474 := hh_298.2.2.2.2.2.2.1
                  refine W.room (fun hrc_474 hrs_474 => ?_)
                  refine va_callv (A0 := jA base) (H0 := s.heap) (va_runV (As := [.int z_473, .int 0, .ref r2]) (rest := []) ⟨hx, hb, hml, hown, hts⟩ (uX6_write l dC dI ca base B hB hAp hB2 hB8 hB102 hB132 hB196 Gx_290 H_290 names_16 z_473 0 r2 wc_290 wr_290 m_wr_290 LC LS) (cwV 3 hts (jgV (jWr_31 _ (List.mem_of_getElem? (i := 17) rfl)) (jWr_31 _ (List.mem_of_getElem? (i := 18) rfl)) (jWr_31 _ (List.mem_of_getElem? (i := 19) rfl)) (jWr_4 _ (List.mem_of_getElem? (i := 10) rfl)) (jWr_31 _ (List.mem_of_getElem? (i := 20) rfl))) rfl rfl rfl (by decide +kernel) ⟨by rw [← hR]; exact Nat.le_of_ble_eq_true rfl, by rw [← hR]; exact Nat.le_of_ble_eq_true rfl⟩) ⟨fun a U g mk q => by obtain ⟨q0, q1, q2, qK, q10, q11, q12, q13, q14⟩ := q; exact ⟨q0, q1, q2, jG.calling g mk a qK, q10, q11, q12, q13, q14⟩, hh_298.recv (C := RX6) (T := TX6) (N := 4) hB8 rfl (by decide) hg_296 hK, fun U hU hW => ⟨rfl, hU, hh_298.2.1, hG.step hW hU hh_298.1, hg_293, hg_296, hg_wr_290, (hh_298.2.2.1.sub (L1 := [(r2, 2, 1, .int wc_290), (r2, 2, 0, .ref wr_290)]) [1, 2] rfl), (by omega), (by omega), ⟨(by first | omega | rfl | assumption | fail), (by first | omega | rfl | assumption | fail), (by first | omega | rfl | assumption | fail), (by first | omega | rfl | assumption | fail), (by first | assumption | fail | omega)⟩⟩⟩ rfl rfl hl.1 rfl (lv_room (Nat.le_of_ble_eq_true rfl)) dX7_proof_101 ⟨by rw [hRc]; omega, by rw [hRs]; omega⟩) hh_298.1 (fun q _ h => h) (fun q h => h) (fun u_474 t_474 H_474 locs_474 ht_474 hvm_474 hr_475 hb_474 hz_474 hk_474 hS_474 => ?_)
                  obtain ⟨qc_474, qa_474, m_qa_474, G_474⟩ := u_474
                  rw [ht_474] at hb_474
                  simp only at hb_474
                  obtain ⟨⟨hb_4741, hb_4742, hb_4743, hb_4744, hb_4745, hb_4746⟩, hgq_474_0, hN_474, hbO_474⟩ := hb_474
                  have hh_474 : jSt (dC, dI) B base G0 G_474 EX7_proof s.heap (zcx_290 + ((m_qa_474 - m_wr_290) / 16)) (zsx_290 + (2 * (m_qa_474 - m_wr_290))) [(r2, 2, 1, .int qc_474), (r2, 2, 0, .ref qa_474), (el_57, 5, 0, .ref variables_299), (r1, 11, 8, .ref goals_42), (r0, 9, 0, .ref names_16), (r1, 11, 6, .int lemma_4)] [] [] H_474 locs_474 := (hh_298.callG hb_4741 hb_4742 hb_4743 hb_4744 hb_4745 hS_474 rfl (L1 := [(el_57, 5, 0, .ref variables_299), (r1, 11, 8, .ref goals_42), (r0, 9, 0, .ref names_16), (r1, 11, 6, .int lemma_4)]) [0, 3, 4, 5] rfl rfl (M1 := []) [] rfl rfl (I1 := []) [] rfl rfl).more hb_4746
                  have hNn_474 : (jNk [0, 1, 2, 3, 4, 5, 6, 7, 8, 9, 10, 11, 12, 13, 14, 15, 16]) G0 G_474 := (hN_290).tr hN_474
                  have hg_476 := hb_4742 _ _ hg_291
                  have hg_477 := hb_4742 _ _ hg_292
                  have hg_478 := hb_4742 _ _ hg_293
                  have hg_479 := hb_4742 _ _ hg_294
                  have hg_480 := hb_4742 _ _ hg_variables_299
                  have hg_481 := hb_4742 _ _ hg_295
                  have hg_482 := hb_4742 _ _ hg_296
                  have hd_483 := jOw.tr (hh_298.iv 0 rfl) hh_298.2.2.2.2.1 hbO_474
                  have hh_484 := hh_474.addI (jOw.ie (dC := dC) (dI := dI) (G0 := G0) (k := 2) (r := r2) (H0 := s.heap) (F := [(2, 0), (2, 1)]) (C := RX0) (T := TX0) (N := 2) rfl (by decide) hh_474.2.2.2.2.1 (hd_483))
                  clear hh_474
                  try simp only at hr_475
                  obtain ⟨hr_475_0, hr_475_1, hr_475_2, hr_475_3, hr_475_4⟩ := hr_475
                  have hh_485 := hh_484.wk (zc1 := (m_qa_474 - n_pa) / 16) (zs1 := 2 * (m_qa_474 - n_pa)) (by omega) (by omega)
                  clear hh_484
                  try clear hsz_474 htt_474 hrc_474 hrs_474
                  try clear hb_4744 hb_4745
                  refine lv_aload_n hx hb dX7_proof_104 rfl (lv_at hl 2 rfl) ?_
                  refine lv_bipush (v := 32) hx hb dX7_proof_105 (by decide) ?_
                  have hsz_486 := hh_485.2.2.2.2.2.1
                  have htt_486 := hh_485.2.2.2.2.2.2.1
                  refine W.room (fun hrc_486 hrs_486 => ?_)
                  refine va_callv (A0 := jA base) (H0 := s.heap) (va_runV (As := [.int 32]) (rest := []) ⟨hx, hb, hml, hown, hts⟩ (uX0_put l dC dI ca base B hB hAp hB2 hB196 G_474 H_474 r2 32 qc_474 qa_474 m_qa_474 LC LS) (cwV 1 hts (jgV (jWr_31 _ (List.mem_of_getElem? (i := 2) rfl)) (jWr_16 _ (List.mem_of_getElem? (i := 0) rfl)) (jWr_16 _ (List.mem_of_getElem? (i := 1) rfl)) (jWr_1 _ (List.mem_of_getElem? (i := 14) rfl)) (jWr_16 _ (List.mem_of_getElem? (i := 2) rfl))) rfl rfl rfl (by decide +kernel) ⟨by rw [← hR]; exact Nat.le_of_ble_eq_true rfl, by rw [← hR]; exact Nat.le_of_ble_eq_true rfl⟩) ⟨fun a U g mk q => by obtain ⟨q0, q1, q2, qK, q10, q11, q12, q13⟩ := q; exact ⟨q0, q1, q2, jG.calling g mk a qK, q10, q11, q12, q13⟩, hh_485.recv (C := RX0) (T := TX0) (N := 2) hB2 rfl (by decide) hg_478 hK, fun U hU hW => ⟨rfl, hU, hh_485.2.1, hG.step hW hU hh_485.1, hg_478, hgq_474_0, (hh_485.2.2.1.sub (L1 := [(r2, 2, 1, .int qc_474), (r2, 2, 0, .ref qa_474)]) [0, 1] rfl), (by omega), (by omega), ⟨(by first | omega | rfl | assumption | fail), (by first | omega | rfl | assumption | fail), (by first | omega | rfl | assumption | fail), (by first | omega | rfl | assumption | fail), (by first | assumption | fail | omega)⟩⟩⟩ rfl rfl hl.1 rfl (lv_room (Nat.le_of_ble_eq_true rfl)) dX7_proof_107 ⟨by rw [hRc]; omega, by rw [hRs]; omega⟩) hh_485.1 (fun q _ h => h) (fun q h => h) (fun u_486 t_486 H_486 locs_486 ht_486 hvm_486 hr_487 hb_486 hz_486 hk_486 hS_486 => ?_)
                  obtain ⟨qc_486, qa_486, m_qa_486, G_486⟩ := u_486
                  rw [ht_486] at hb_486
                  simp only at hb_486
                  obtain ⟨⟨hb_4861, hb_4862, hb_4863, hb_4864, hb_4865, hb_4866⟩, hgq_486_0, hN_486, hbO_486⟩ := hb_486
                  have hh_486 : jSt (dC, dI) B base G0 G_486 EX7_proof s.heap (((m_qa_474 - n_pa) / 16) + ((m_qa_486 - m_qa_474) / 16)) ((2 * (m_qa_474 - n_pa)) + (2 * (m_qa_486 - m_qa_474))) [(r2, 2, 1, .int qc_486), (r2, 2, 0, .ref qa_486), (el_57, 5, 0, .ref variables_299), (r1, 11, 8, .ref goals_42), (r0, 9, 0, .ref names_16), (r1, 11, 6, .int lemma_4)] [] [] H_486 locs_486 := (hh_485.callG hb_4861 hb_4862 hb_4863 hb_4864 hb_4865 hS_486 rfl (L1 := [(el_57, 5, 0, .ref variables_299), (r1, 11, 8, .ref goals_42), (r0, 9, 0, .ref names_16), (r1, 11, 6, .int lemma_4)]) [2, 3, 4, 5] rfl rfl (M1 := []) [] rfl rfl (I1 := []) [] rfl rfl).more hb_4866
                  have hNn_486 : (jNk [0, 1, 2, 3, 4, 5, 6, 7, 8, 9, 10, 11, 12, 13, 14, 15, 16]) G0 G_486 := (hNn_474).tr hN_486
                  have hg_488 := hb_4862 _ _ hg_476
                  have hg_489 := hb_4862 _ _ hg_477
                  have hg_490 := hb_4862 _ _ hg_478
                  have hg_491 := hb_4862 _ _ hg_479
                  have hg_492 := hb_4862 _ _ hg_480
                  have hg_493 := hb_4862 _ _ hg_481
                  have hg_494 := hb_4862 _ _ hg_482
                  have hd_495 := jOw.tr (hh_485.iv 0 rfl) hh_485.2.2.2.2.1 hbO_486
                  have hh_496 := hh_486.addI (jOw.ie (dC := dC) (dI := dI) (G0 := G0) (k := 2) (r := r2) (H0 := s.heap) (F := [(2, 0), (2, 1)]) (C := RX0) (T := TX0) (N := 2) rfl (by decide) hh_486.2.2.2.2.1 (hd_495))
                  clear hh_486
                  try simp only at hr_487
                  obtain ⟨hr_487_0, hr_487_1, hr_487_2, hr_487_3, hr_487_4⟩ := hr_487
                  have hh_497 := hh_496.wk (zc1 := (m_qa_486 - n_pa) / 16) (zs1 := 2 * (m_qa_486 - n_pa)) (by omega) (by omega)
                  clear hh_496
                  try clear hsz_486 htt_486 hrc_486 hrs_486
                  try clear hb_4864 hb_4865
                  obtain ⟨z_498, ez_498⟩ : ∃ y : Int32, y = v5_290 + 1 := ⟨_, rfl⟩
                  refine lv_iinc (v := z_498) (lv' := [(5, .int z_498), (0, .ref r0), (1, .ref r1), (2, .ref r2), (3, .int v3_35), (4, .ref el_57)]) hx hb dX7_proof_110 hl (k := 5) rfl (by rw [ez_498]; rfl) (by decide) rfl (fun ls hl => ?_)
                  have hz_498 : z_498.toInt = v5_290.toInt + 1 := by rw [ez_498]; exact jb_iadd2 (rfl) (by decide) (by omega)
                  refine lv_goto (tgt := 76) hx hb dX7_proof_113 (by decide) ?_
                  refine W.tight (c2 := ((m_qa_486 - n_pa) / 16)) (n2 := (2 * (m_qa_486 - n_pa))) hh_497.2.2.2.2.2.1 hh_497.2.2.2.2.2.2.1 ?_
                  exact L76 G_486 ((m_qa_486 - n_pa) / 16) (2 * (m_qa_486 - n_pa)) z_498 qc_486 qa_486 m_qa_486 _ _ (hh_497.sub (L1 := [(r2, 2, 1, .int qc_486), (r2, 2, 0, .ref qa_486), (r1, 11, 8, .ref goals_42), (r0, 9, 0, .ref names_16), (r1, 11, 6, .int lemma_4)]) [0, 1, 3, 4, 5] rfl (M1 := []) [] rfl (I1 := [([(2, 0), (2, 1)], jOw (dC, dI) G0 2 r2 s.heap)]) [0] rfl) (hNn_486) (((hle_290).tr hb_4742).tr hb_4862) hgq_486_0 (⟨(by first | omega | rfl | assumption | fail), (by first | omega | rfl | assumption | fail), (by first | omega | rfl | assumption | fail), (by first | omega | rfl | assumption | fail), (by first | assumption | fail | omega), (by first | omega | rfl | assumption | fail), (by first | omega | rfl | assumption | fail), (by first | omega | rfl | assumption | fail), (by first | omega | rfl | assumption | fail)⟩) (by omega) _ (lv_sub hl [1, 2, 3, 4, 5, 0] rfl)
            refine W.tight (c2 := ((m_qa_279 - n_pa) / 16)) (n2 := (2 * (m_qa_279 - n_pa))) hh_289.2.2.2.2.2.1 hh_289.2.2.2.2.2.2.1 ?_
            exact L76 (8 - (0 : Int32).toInt : Int).toNat.succ G_279 ((m_qa_279 - n_pa) / 16) (2 * (m_qa_279 - n_pa)) 0 qc_279 qa_279 m_qa_279 _ _ hh_289 (hNn_279) (jLe.rf) hgq_279_0 (⟨(by first | omega | rfl | assumption | fail), (by first | omega | rfl | assumption | fail), (by first | omega | rfl | assumption | fail), (by first | omega | rfl | assumption | fail), (by first | assumption | fail | omega), (by first | omega | rfl | assumption | fail), (by first | omega | rfl | assumption | fail), (by first | omega | rfl | assumption | fail), (by first | omega | rfl | assumption | fail)⟩) (by omega) _ (lv_sub hl [2, 3, 4, 5, 1, 0] rfl)
    refine W.tight (c2 := ((m_qa_26 - n_pa) / 16)) (n2 := (2 * (m_qa_26 - n_pa))) hh_34.2.2.2.2.2.1 hh_34.2.2.2.2.2.2.1 ?_
    exact L41 (7 - (0 : Int32).toInt : Int).toNat.succ G_26 ((m_qa_26 - n_pa) / 16) (2 * (m_qa_26 - n_pa)) 0 qc_26 qa_26 m_qa_26 _ _ hh_34 (hNn_26) (jLe.rf) hgq_26_0 (⟨(by first | omega | rfl | assumption | fail), (by first | omega | rfl | assumption | fail), (by first | omega | rfl | assumption | fail), (by first | omega | rfl | assumption | fail), (by first | assumption | fail | omega), (by first | omega | rfl | assumption | fail), (by first | omega | rfl | assumption | fail), (by first | omega | rfl | assumption | fail), (by first | omega | rfl | assumption | fail)⟩) (by omega) _ (lv_sub hl [1, 2, 3, 0] rfl)
  · skip
    have c_5' : lemma_4.toInt < 0 := jb_ge_n (rfl) ((by decide)) c_5
    refine lv_aload_n hx hb dX7_proof_7 rfl (lv_at hl 2 rfl) ?_
    refine va_ldcS hx hb hown rstr31 dX7_proof_8 ?_
    have hsz_499 := hh_3.2.2.2.2.2.1
    have htt_499 := hh_3.2.2.2.2.2.2.1
    refine W.room (fun hrc_499 hrs_499 => ?_)
    refine va_callv (A0 := jA base) (H0 := s.heap) (va_runV (As := [.ref str31]) (rest := []) ⟨hx, hb, hml, hown, hts⟩ (uX0_text l dC dI ca base B hB hAp hB2 hB196 G0 s.heap r2 str31 4 pc pa n_pa LC LS) (cwV 1 hts (jgV (jWr_31 _ (List.mem_of_getElem? (i := 16) rfl)) (jWr_25 _ (List.mem_of_getElem? (i := 22) rfl)) (jWr_25 _ (List.mem_of_getElem? (i := 23) rfl)) (jWr_1 _ (List.mem_of_getElem? (i := 14) rfl)) (jWr_26 _ (List.mem_of_getElem? (i := 0) rfl))) rfl rfl rfl (by decide +kernel) ⟨by rw [← hR]; exact Nat.le_of_ble_eq_true rfl, by rw [← hR]; exact Nat.le_of_ble_eq_true rfl⟩) ⟨fun a U g mk q => by obtain ⟨q0, q1, q2, qK, q10, q11, q12, q13, q14⟩ := q; exact ⟨q0, q1, q2, jG.calling g mk a qK, (q10.moved (Vm.Alike.refl U.vm)), q11, q12, q13, q14⟩, hh_3.recv (C := RX0) (T := TX0) (N := 2) hB2 rfl (by decide) hg_r2 hK, fun U hU hW => ⟨rfl, hU, hh_3.2.1, hG.step hW hU hh_3.1, (hstr31.moved hW.alike).kept hh_3.1.2.1, hg_r2, hg_pa, (hh_3.2.2.1.sub (L1 := [(r2, 2, 1, .int pc), (r2, 2, 0, .ref pa)]) [1, 2] rfl), (by omega), (by omega), ⟨(by first | omega | rfl | assumption | fail), (by first | omega | rfl | assumption | fail), (by first | omega | rfl | assumption | fail), (by first | omega | rfl | assumption | fail), (by first | assumption | fail | omega), (by first | omega | rfl | assumption | fail)⟩⟩⟩ rfl rfl hl.1 rfl (lv_room (Nat.le_of_ble_eq_true rfl)) dX7_proof_10 ⟨by rw [hRc]; omega, by rw [hRs]; omega⟩) hh_3.1 (fun q _ h => h) (fun q h => h) (fun u_499 t_499 H_499 locs_499 ht_499 hvm_499 hr_500 hb_499 hz_499 hk_499 hS_499 => ?_)
    obtain ⟨qc_499, qa_499, m_qa_499, G_499⟩ := u_499
    rw [ht_499] at hb_499
    simp only at hb_499
    obtain ⟨⟨hb_4991, hb_4992, hb_4993, hb_4994, hb_4995, hb_4996⟩, hgq_499_0, hN_499, hbO_499⟩ := hb_499
    have hh_499 : jSt (dC, dI) B base G0 G_499 EX7_proof s.heap (0 + ((m_qa_499 - n_pa) / 16)) (0 + (2 * (m_qa_499 - n_pa))) [(r2, 2, 1, .int qc_499), (r2, 2, 0, .ref qa_499), (r1, 11, 6, .int lemma_4)] [] [] H_499 locs_499 := (hh_3.callG hb_4991 hb_4992 hb_4993 hb_4994 hb_4995 hS_499 rfl (L1 := [(r1, 11, 6, .int lemma_4)]) [0] rfl rfl (M1 := []) [] rfl rfl (I1 := []) [] rfl rfl).more hb_4996
    have hNn_499 : (jNk [0, 1, 2, 3, 4, 5, 6, 7, 8, 9, 10, 11, 12, 13, 14, 15, 16]) G0 G_499 := (jNk.rf).tr hN_499
    have hg_501 := hb_4992 _ _ hg_r0
    have hg_502 := hb_4992 _ _ hg_r1
    have hg_503 := hb_4992 _ _ hg_r2
    have hd_504 := jOw.tr (hh_3.iv 0 rfl) hh_3.2.2.2.2.1 hbO_499
    have hh_505 := hh_499.addI (jOw.ie (dC := dC) (dI := dI) (G0 := G0) (k := 2) (r := r2) (H0 := s.heap) (F := [(2, 0), (2, 1)]) (C := RX0) (T := TX0) (N := 2) rfl (by decide) hh_499.2.2.2.2.1 (hd_504))
    clear hh_499
    try simp only at hr_500
    obtain ⟨hr_500_0, hr_500_1, hr_500_2, hr_500_3, hr_500_4⟩ := hr_500
    have hh_506 := hh_505.wk (zc1 := (m_qa_499 - n_pa) / 16) (zs1 := 2 * (m_qa_499 - n_pa)) (by omega) (by omega)
    clear hh_505
    try clear hsz_499 htt_499 hrc_499 hrs_499
    try clear hb_4994 hb_4995
    have hsz_507 := hh_506.2.2.2.2.2.1
    have htt_507 := hh_506.2.2.2.2.2.2.1
    refine W.room (fun hrc_507 hrs_507 => ?_)
    refine W.widen (k := LC - s.heap.size) (n := LS - jTot s.heap) (by omega) (by omega) ?_
    rw [hQ]
    exact W.vret hx hb hr (fun t ht hW => ⟨⟨(qc_499, qa_499, m_qa_499, G_499), rfl, by (try dsimp only); exact ⟨(by first | omega | rfl | assumption | fail), (by first | omega | rfl | assumption | fail), (by first | omega | rfl | assumption | fail), (by first | omega | rfl | assumption | fail), (by first | assumption | fail | omega)⟩, ⟨hh_506.ra (by first | omega | (simp only; omega)) (by first | omega | (simp only; omega)) (M1 := [(r2, 2, 1, .int qc_499), (r2, 2, 0, .ref qa_499)]) [0, 1] rfl ht, hgq_499_0, hNn_499, by rw [ht]; exact hh_506.iv 0 rfl⟩⟩, by rw [ht]; try exact hh_506.1.1, fun q h9 hq => by rw [ht]; try exact hh_506.1.2.1 q h9 hq⟩) hh_506.1.2.2 dX7_proof_13
