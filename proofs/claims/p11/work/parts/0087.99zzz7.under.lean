section
theorem dX11_understood_0 : decode cX11_understood 0 = .ok (.aload_n 0, 1) := by decide +kernel
theorem dX11_understood_1 : decode cX11_understood 1 = .ok (.getfield 28, 3) := by decide +kernel
theorem dX11_understood_4 : decode cX11_understood 4 = .ok (.aload_n 0, 1) := by decide +kernel
theorem dX11_understood_5 : decode cX11_understood 5 = .ok (.getfield 21, 3) := by decide +kernel
theorem dX11_understood_8 : decode cX11_understood 8 = .ok (.getfield 253, 3) := by decide +kernel
theorem dX11_understood_11 : decode cX11_understood 11 = .ok (.aload_n 0, 1) := by decide +kernel
theorem dX11_understood_12 : decode cX11_understood 12 = .ok (.getfield 21, 3) := by decide +kernel
theorem dX11_understood_15 : decode cX11_understood 15 = .ok (.getfield 255, 3) := by decide +kernel
theorem dX11_understood_18 : decode cX11_understood 18 = .ok (.invokevirtual 256, 3) := by decide +kernel
theorem dX11_understood_21 : decode cX11_understood 21 = .ok (.istore_n 1, 1) := by decide +kernel
theorem dX11_understood_22 : decode cX11_understood 22 = .ok (.iload_n 1, 1) := by decide +kernel
theorem dX11_understood_23 : decode cX11_understood 23 = .ok (.ifCond .eq 17, 3) := by decide +kernel
theorem dX11_understood_26 : decode cX11_understood 26 = .ok (.aload_n 0, 1) := by decide +kernel
theorem dX11_understood_27 : decode cX11_understood 27 = .ok (.getfield 28, 3) := by decide +kernel
theorem dX11_understood_30 : decode cX11_understood 30 = .ok (.iconst 0, 1) := by decide +kernel
theorem dX11_understood_31 : decode cX11_understood 31 = .ok (.ldc_w 259, 3) := by decide +kernel
theorem dX11_understood_34 : decode cX11_understood 34 = .ok (.invokevirtual 260, 3) := by decide +kernel
theorem dX11_understood_37 : decode cX11_understood 37 = .ok (.goto 4, 3) := by decide +kernel
theorem dX11_understood_40 : decode cX11_understood 40 = .ok (.iconst (-1), 1) := by decide +kernel
theorem dX11_understood_41 : decode cX11_understood 41 = .ok (.istore_n 2, 1) := by decide +kernel
theorem dX11_understood_42 : decode cX11_understood 42 = .ok (.new 115, 3) := by decide +kernel
theorem dX11_understood_45 : decode cX11_understood 45 = .ok (.dup, 1) := by decide +kernel
theorem dX11_understood_46 : decode cX11_understood 46 = .ok (.aload_n 0, 1) := by decide +kernel
theorem dX11_understood_47 : decode cX11_understood 47 = .ok (.getfield 28, 3) := by decide +kernel
theorem dX11_understood_50 : decode cX11_understood 50 = .ok (.iload_n 2, 1) := by decide +kernel
theorem dX11_understood_51 : decode cX11_understood 51 = .ok (.invokespecial 264, 3) := by decide +kernel
theorem dX11_understood_54 : decode cX11_understood 54 = .ok (.astore_n 3, 1) := by decide +kernel
theorem dX11_understood_55 : decode cX11_understood 55 = .ok (.iload_n 1, 1) := by decide +kernel
theorem dX11_understood_56 : decode cX11_understood 56 = .ok (.ifCond .ne 13, 3) := by decide +kernel
theorem dX11_understood_59 : decode cX11_understood 59 = .ok (.aload_n 0, 1) := by decide +kernel
theorem dX11_understood_60 : decode cX11_understood 60 = .ok (.aload_n 3, 1) := by decide +kernel
theorem dX11_understood_61 : decode cX11_understood 61 = .ok (.sipush (-32700), 3) := by decide +kernel
theorem dX11_understood_64 : decode cX11_understood 64 = .ok (.invokevirtual 267, 3) := by decide +kernel
theorem dX11_understood_67 : decode cX11_understood 67 = .ok (.aconst_null, 1) := by decide +kernel
theorem dX11_understood_68 : decode cX11_understood 68 = .ok (.areturn, 1) := by decide +kernel
theorem dX11_understood_69 : decode cX11_understood 69 = .ok (.aload_n 0, 1) := by decide +kernel
theorem dX11_understood_70 : decode cX11_understood 70 = .ok (.getfield 28, 3) := by decide +kernel
theorem dX11_understood_73 : decode cX11_understood 73 = .ok (.iconst 0, 1) := by decide +kernel
theorem dX11_understood_74 : decode cX11_understood 74 = .ok (.ldc_w 271, 3) := by decide +kernel
theorem dX11_understood_77 : decode cX11_understood 77 = .ok (.invokevirtual 260, 3) := by decide +kernel
theorem dX11_understood_80 : decode cX11_understood 80 = .ok (.istore 4, 2) := by decide +kernel
theorem dX11_understood_82 : decode cX11_understood 82 = .ok (.aload_n 0, 1) := by decide +kernel
theorem dX11_understood_83 : decode cX11_understood 83 = .ok (.getfield 28, 3) := by decide +kernel
theorem dX11_understood_86 : decode cX11_understood 86 = .ok (.aload_n 0, 1) := by decide +kernel
theorem dX11_understood_87 : decode cX11_understood 87 = .ok (.getfield 28, 3) := by decide +kernel
theorem dX11_understood_90 : decode cX11_understood 90 = .ok (.iconst 0, 1) := by decide +kernel
theorem dX11_understood_91 : decode cX11_understood 91 = .ok (.ldc_w 273, 3) := by decide +kernel
theorem dX11_understood_94 : decode cX11_understood 94 = .ok (.invokevirtual 260, 3) := by decide +kernel
theorem dX11_understood_97 : decode cX11_understood 97 = .ok (.ldc_w 275, 3) := by decide +kernel
theorem dX11_understood_100 : decode cX11_understood 100 = .ok (.invokevirtual 277, 3) := by decide +kernel
theorem dX11_understood_103 : decode cX11_understood 103 = .ok (.ifCond .eq 58, 3) := by decide +kernel
theorem dX11_understood_106 : decode cX11_understood 106 = .ok (.aload_n 0, 1) := by decide +kernel
theorem dX11_understood_107 : decode cX11_understood 107 = .ok (.getfield 28, 3) := by decide +kernel
theorem dX11_understood_110 : decode cX11_understood 110 = .ok (.aload_n 0, 1) := by decide +kernel
theorem dX11_understood_111 : decode cX11_understood 111 = .ok (.getfield 28, 3) := by decide +kernel
theorem dX11_understood_114 : decode cX11_understood 114 = .ok (.iconst 0, 1) := by decide +kernel
theorem dX11_understood_115 : decode cX11_understood 115 = .ok (.ldc_w 281, 3) := by decide +kernel
theorem dX11_understood_118 : decode cX11_understood 118 = .ok (.invokevirtual 260, 3) := by decide +kernel
theorem dX11_understood_121 : decode cX11_understood 121 = .ok (.invokevirtual 283, 3) := by decide +kernel
theorem dX11_understood_124 : decode cX11_understood 124 = .ok (.iconst 3, 1) := by decide +kernel
theorem dX11_understood_125 : decode cX11_understood 125 = .ok (.if_icmp .ne 36, 3) := by decide +kernel
theorem dX11_understood_128 : decode cX11_understood 128 = .ok (.iload 4, 2) := by decide +kernel
theorem dX11_understood_130 : decode cX11_understood 130 = .ok (.ifCond .lt 16, 3) := by decide +kernel
theorem dX11_understood_133 : decode cX11_understood 133 = .ok (.aload_n 0, 1) := by decide +kernel
theorem dX11_understood_134 : decode cX11_understood 134 = .ok (.getfield 28, 3) := by decide +kernel
theorem dX11_understood_137 : decode cX11_understood 137 = .ok (.iload 4, 2) := by decide +kernel
theorem dX11_understood_139 : decode cX11_understood 139 = .ok (.invokevirtual 283, 3) := by decide +kernel
theorem dX11_understood_142 : decode cX11_understood 142 = .ok (.iconst 1, 1) := by decide +kernel
theorem dX11_understood_143 : decode cX11_understood 143 = .ok (.if_icmp .ne 18, 3) := by decide +kernel
theorem dX11_understood_146 : decode cX11_understood 146 = .ok (.iload_n 2, 1) := by decide +kernel
theorem dX11_understood_147 : decode cX11_understood 147 = .ok (.ifCond .lt 10, 3) := by decide +kernel
theorem dX11_understood_150 : decode cX11_understood 150 = .ok (.aload_n 3, 1) := by decide +kernel
theorem dX11_understood_151 : decode cX11_understood 151 = .ok (.getfield 114, 3) := by decide +kernel
theorem dX11_understood_154 : decode cX11_understood 154 = .ok (.ifnull 7, 3) := by decide +kernel
theorem dX11_understood_157 : decode cX11_understood 157 = .ok (.iconst 1, 1) := by decide +kernel
theorem dX11_understood_158 : decode cX11_understood 158 = .ok (.goto 4, 3) := by decide +kernel
theorem dX11_understood_161 : decode cX11_understood 161 = .ok (.iconst 0, 1) := by decide +kernel
theorem dX11_understood_162 : decode cX11_understood 162 = .ok (.istore 5, 2) := by decide +kernel
theorem dX11_understood_164 : decode cX11_understood 164 = .ok (.iload 5, 2) := by decide +kernel
theorem dX11_understood_166 : decode cX11_understood 166 = .ok (.ifCond .ne 13, 3) := by decide +kernel
theorem dX11_understood_169 : decode cX11_understood 169 = .ok (.aload_n 0, 1) := by decide +kernel
theorem dX11_understood_170 : decode cX11_understood 170 = .ok (.aload_n 3, 1) := by decide +kernel
theorem dX11_understood_171 : decode cX11_understood 171 = .ok (.sipush (-32600), 3) := by decide +kernel
theorem dX11_understood_174 : decode cX11_understood 174 = .ok (.invokevirtual 267, 3) := by decide +kernel
theorem dX11_understood_177 : decode cX11_understood 177 = .ok (.aconst_null, 1) := by decide +kernel
theorem dX11_understood_178 : decode cX11_understood 178 = .ok (.areturn, 1) := by decide +kernel
theorem dX11_understood_179 : decode cX11_understood 179 = .ok (.aload_n 3, 1) := by decide +kernel
theorem dX11_understood_180 : decode cX11_understood 180 = .ok (.areturn, 1) := by decide +kernel
def EX11_understood : List (Nat × Nat) := [(2, 0), (2, 1), (6, 7), (6, 8), (6, 9), (6, 10), (6, 11), (13, 14), (101, 0), (140, 0), (141, 0), (142, 0), (143, 0), (144, 0), (145, 0), (146, 0), (196, 0)]
set_option maxHeartbeats 4000000 in
set_option maxRecDepth 20000 in
theorem uX11_understood (l : Launch) (dC : Nat → ClassId) (dI : Nat → Nat → Nat) (ca : Nat → ClassId) (base : Nat) (B : jF) (hB : jBok B) (hAp : jAp (dC, dI)) (hB2 : ∀ n G a H, B 2 n G a H ↔ jOb (dC, dI) 2 2 (F2 n G) a H) (hB4 : ∀ n G a H, B 4 n G a H ↔ jOb (dC, dI) 4 12 (F4 n G) a H) (hB6 : ∀ n G a H, B 6 n G a H ↔ jOb (dC, dI) 6 12 (F6 n G) a H) (hB10 : ∀ n G a H, B 10 n G a H ↔ jOb (dC, dI) 10 5 (F10 n G) a H) (hB13 : ∀ n G a H, B 13 n G a H ↔ jOb (dC, dI) 13 19 (F13 n G) a H) (hB100 : ∀ n G a H, B 100 n G a H ↔ jAr (dC, dI) (ca 0) (fun j z => True) n a H) (hB101 : ∀ n G a H, B 101 n G a H ↔ jAr (dC, dI) (ca 1) (fun j z => True) n a H) (hB140 : ∀ n G a H, B 140 n G a H ↔ jAr (dC, dI) (ca 1) (fun j z => True) n a H) (hB141 : ∀ n G a H, B 141 n G a H ↔ jAr (dC, dI) (ca 1) (fun j z => True) n a H) (hB142 : ∀ n G a H, B 142 n G a H ↔ jAr (dC, dI) (ca 1) (fun j z => True) n a H) (hB143 : ∀ n G a H, B 143 n G a H ↔ jAr (dC, dI) (ca 1) (fun j z => True) n a H) (hB144 : ∀ n G a H, B 144 n G a H ↔ jAr (dC, dI) (ca 1) (fun j z => 0 ≤ z.toInt ∧ z.toInt ≤ 3000) n a H) (hB145 : ∀ n G a H, B 145 n G a H ↔ jAr (dC, dI) (ca 1) (fun j z => True) n a H) (hB146 : ∀ n G a H, B 146 n G a H ↔ jAr (dC, dI) (ca 1) (fun j z => True) n a H) (hB196 : ∀ n G a H, B 196 n G a H ↔ jAr (dC, dI) (ca 0) (fun j z => jBf j z) n a H) (G0 : jT) (H0 : Heap) (r0 : Nat) (bo : Nat) (pc : Int32) (pa : Nat) (n_pa : Nat) (ou : Nat) (js : Nat) (wk : Nat) (wi : Nat) (wz : Nat) (jkf : Nat) (jks : Nat) (fm : Nat) (fl : Int32) (fk : Nat → Int32) (fi : Nat → Int32) (fz : Nat → Int32) (fa : Nat → Int32) (fs : Nat → Int32) (LC LS : Nat) : Met l yX11_understood (jw yX11_understood cX11_understood 6 (some (.object "ProofServer$Request"))) ({ frames := 30, cells := LC - H0.size, slots := LS - jTot H0, locals := 1846 }) (va_Pc [.ref r0] (fun U => U.heap = H0 ∧ jX B base G0 [] H0 ∧ jG dC dI ca base U ∧ G0 r0 = some (13, 0) ∧ G0 bo = some (2, 0) ∧ G0 pa = some (196, n_pa) ∧ G0 ou = some (2, 20000) ∧ G0 js = some (6, 0) ∧ G0 wk = some (140, 1502) ∧ G0 wi = some (141, 1502) ∧ G0 wz = some (142, 1502) ∧ G0 jkf = some (144, 1502) ∧ G0 jks = some (145, 1502) ∧ G0 fm = some (4, 0) ∧ jP (dC, dI) G0 H0 [(r0, 13, 4, .ref bo), (bo, 2, 1, .int pc), (bo, 2, 0, .ref pa), (r0, 13, 3, .ref ou), (r0, 13, 2, .ref js), (js, 6, 0, .ref wk), (js, 6, 1, .ref wi), (js, 6, 2, .ref wz), (js, 6, 4, .ref jkf), (js, 6, 5, .ref jks), (r0, 13, 1, .ref fm), (fm, 4, 1, .int fl)] ∧ jMc (dC, dI) G0 H0 [(wk, 140, 1502, ca 1, fk), (wi, 141, 1502, ca 1, fi), (wz, 142, 1502, ca 1, fz), (jkf, 144, 1502, ca 1, fa), (jks, 145, 1502, ca 1, fs)] ∧ jIs (dC, dI) G0 H0 [(jFy, jYb dC dI G0)] ∧ H0.size + (1048576 - n_pa) / 16 + 20 ≤ LC ∧ jTot H0 + 2 * (1048576 - n_pa) + 3400 ≤ LS ∧ 0 ≤ pc.toInt ∧ pc.toInt ≤ n_pa ∧ 16 ≤ n_pa ∧ n_pa ≤ 1048576 ∧ jPw n_pa ∧ 0 ≤ fl.toInt)) (jQx (S := Int32 × Int32 × Int32 × Nat × Nat × (Nat → Int32) × (Nat → Int32) × (Nat → Int32) × (Nat → Int32) × (Nat → Int32) × Nat × jT) (fun v u => (v = .null ∨ (jRf u.2.2.2.2.2.2.2.2.2.2.2 10 u.2.2.2.2.2.2.2.2.2.2.1 v ∧ jNwv v H0)) ∧ 0 ≤ u.1.toInt ∧ u.1.toInt ≤ u.2.2.2.2.1 ∧ n_pa ≤ u.2.2.2.2.1 ∧ u.2.2.2.2.1 ≤ 1048576 ∧ jPw u.2.2.2.2.1 ∧ u.2.2.2.2.2.2.2.2.2.2.1 = 0 ∧ u.2.1.toInt ≤ 1502 ∧ u.2.2.1.toInt ≤ 3000 ∧ jJr (fk, fi, fz, fa, fs) 0 0 (u.2.2.2.2.2.1, u.2.2.2.2.2.2.1, u.2.2.2.2.2.2.2.1, u.2.2.2.2.2.2.2.2.1, u.2.2.2.2.2.2.2.2.2.1) u.2.1.toInt u.2.2.1.toInt ∧ (v = .null ∨ jUd (u.2.2.2.2.2.1, u.2.2.2.2.2.2.1, u.2.2.2.2.2.2.2.1, u.2.2.2.2.2.2.2.2.1, u.2.2.2.2.2.2.2.2.2.1) u.2.1.toInt u.2.2.1.toInt fl.toInt)) (fun u t => jRa (dC, dI) B base G0 u.2.2.2.2.2.2.2.2.2.2.2 EX11_understood H0 ((u.2.2.2.2.1 - n_pa) / 16 + 11) (2 * (u.2.2.2.2.1 - n_pa) + 267) [(bo, 2, 1, .int u.1), (js, 6, 7, .int u.2.1), (js, 6, 8, .int u.2.2.1), (bo, 2, 0, .ref u.2.2.2.1)] t.heap ∧ u.2.2.2.2.2.2.2.2.2.2.2 u.2.2.2.1 = some (196, u.2.2.2.2.1) ∧ (jNk [0, 1, 3, 4, 5, 6, 7, 8, 9, 11, 12, 13, 14, 15, 16]) G0 u.2.2.2.2.2.2.2.2.2.2.2 ∧ jOl (dC, dI) G0 2 [bo, ou] H0 t.heap ∧ jIs (dC, dI) u.2.2.2.2.2.2.2.2.2.2.2 t.heap [(jFy, jYb dC dI u.2.2.2.2.2.2.2.2.2.2.2)] ∧ jMc (dC, dI) u.2.2.2.2.2.2.2.2.2.2.2 t.heap [(wk, 140, 1502, ca 1, u.2.2.2.2.2.1), (wi, 141, 1502, ca 1, u.2.2.2.2.2.2.1), (wz, 142, 1502, ca 1, u.2.2.2.2.2.2.2.1), (jkf, 144, 1502, ca 1, u.2.2.2.2.2.2.2.2.1), (jks, 145, 1502, ca 1, u.2.2.2.2.2.2.2.2.2.1)]) (jA base)) (LC - H0.size) (LS - jTot H0) (jA base) := by
  refine Met.ofW (cc := cX11_understood) (maxL := 6) (ret := (some (.object "ProofServer$Request"))) (by decide) rfl ?_
  intro p e s m args below meth c s₁ Bd hml hv
  obtain ⟨rfl, hH0, hX, hG, hg_r0, hg_bo, hg_pa, hg_ou, hg_js, hg_wk, hg_wi, hg_wz, hg_jkf, hg_jks, hg_fm, hP0, hM0, hI0, hLC0, hLS0, hp0, hp1, hp2, hp3, hp4, hp5⟩ := hv
  have hK := hG.1
  have hx := Bd.exec
  have hb := Bd.bytes
  have hr := Bd.returns
  have hts := atoms_spec (ws := (jw yX11_understood cX11_understood 6 (some (.object "ProofServer$Request")))) Bd.pre
  have htw : ∀ w ∈ jWl, w.before _ s = true := fun w h => hts w (List.mem_cons_of_mem _ h)
  have hown : s.vm.findClass RX11 = some m.cls := findClass_of_methodNamed Bd.named
  have hlocks := Bd.notSynchronized
  obtain ⟨Q, hQ⟩ : ∃ Q, Q = MQ below (jQx (S := Int32 × Int32 × Int32 × Nat × Nat × (Nat → Int32) × (Nat → Int32) × (Nat → Int32) × (Nat → Int32) × (Nat → Int32) × Nat × jT) (fun v u => (v = .null ∨ (jRf u.2.2.2.2.2.2.2.2.2.2.2 10 u.2.2.2.2.2.2.2.2.2.2.1 v ∧ jNwv v H0)) ∧ 0 ≤ u.1.toInt ∧ u.1.toInt ≤ u.2.2.2.2.1 ∧ n_pa ≤ u.2.2.2.2.1 ∧ u.2.2.2.2.1 ≤ 1048576 ∧ jPw u.2.2.2.2.1 ∧ u.2.2.2.2.2.2.2.2.2.2.1 = 0 ∧ u.2.1.toInt ≤ 1502 ∧ u.2.2.1.toInt ≤ 3000 ∧ jJr (fk, fi, fz, fa, fs) 0 0 (u.2.2.2.2.2.1, u.2.2.2.2.2.2.1, u.2.2.2.2.2.2.2.1, u.2.2.2.2.2.2.2.2.1, u.2.2.2.2.2.2.2.2.2.1) u.2.1.toInt u.2.2.1.toInt ∧ (v = .null ∨ jUd (u.2.2.2.2.2.1, u.2.2.2.2.2.2.1, u.2.2.2.2.2.2.2.1, u.2.2.2.2.2.2.2.2.1, u.2.2.2.2.2.2.2.2.2.1) u.2.1.toInt u.2.2.1.toInt fl.toInt)) (fun u t => jRa (dC, dI) B base G0 u.2.2.2.2.2.2.2.2.2.2.2 EX11_understood H0 ((u.2.2.2.2.1 - n_pa) / 16 + 11) (2 * (u.2.2.2.2.1 - n_pa) + 267) [(bo, 2, 1, .int u.1), (js, 6, 7, .int u.2.1), (js, 6, 8, .int u.2.2.1), (bo, 2, 0, .ref u.2.2.2.1)] t.heap ∧ u.2.2.2.2.2.2.2.2.2.2.2 u.2.2.2.1 = some (196, u.2.2.2.2.1) ∧ (jNk [0, 1, 3, 4, 5, 6, 7, 8, 9, 11, 12, 13, 14, 15, 16]) G0 u.2.2.2.2.2.2.2.2.2.2.2 ∧ jOl (dC, dI) G0 2 [bo, ou] H0 t.heap ∧ jIs (dC, dI) u.2.2.2.2.2.2.2.2.2.2.2 t.heap [(jFy, jYb dC dI u.2.2.2.2.2.2.2.2.2.2.2)] ∧ jMc (dC, dI) u.2.2.2.2.2.2.2.2.2.2.2 t.heap [(wk, 140, 1502, ca 1, u.2.2.2.2.2.1), (wi, 141, 1502, ca 1, u.2.2.2.2.2.2.1), (wz, 142, 1502, ca 1, u.2.2.2.2.2.2.2.1), (jkf, 144, 1502, ca 1, u.2.2.2.2.2.2.2.2.1), (jks, 145, 1502, ca 1, u.2.2.2.2.2.2.2.2.2.1)]) (jA base)) ([.ref r0] : List Value).toArray s (LC - H0.size) (LS - jTot H0) (jA base) := ⟨_, rfl⟩
  rw [← hQ]
  have hl := lv_entry ([.ref r0]) (n := 6) (Nat.le_of_ble_eq_true rfl)
  rw [lg_entry_eq]
  generalize (lg_sl ([.ref r0]) ++ List.replicate (6 - (lg_sl ([.ref r0])).length) Slot.unset).toArray = ls at hl ⊢
  have hl : lv_has ls 6 [(0, .ref r0)] := hl
  generalize hR : (headSpec (jw yX11_understood cX11_understood 6 (some (.object "ProofServer$Request"))) ({ frames := 30, cells := LC - H0.size, slots := LS - jTot H0, locals := 1846 })).room = R
  subst hH0
  have hh : jSt (dC, dI) B base G0 G0 EX11_understood s.heap 0 0 [(r0, 13, 4, .ref bo), (bo, 2, 1, .int pc), (bo, 2, 0, .ref pa), (r0, 13, 3, .ref ou), (r0, 13, 2, .ref js), (js, 6, 0, .ref wk), (js, 6, 1, .ref wi), (js, 6, 2, .ref wz), (js, 6, 4, .ref jkf), (js, 6, 5, .ref jks), (r0, 13, 1, .ref fm), (fm, 4, 1, .int fl)] [(wk, 140, 1502, ca 1, fk), (wi, 141, 1502, ca 1, fi), (wz, 142, 1502, ca 1, fz), (jkf, 144, 1502, ca 1, fa), (jks, 145, 1502, ca 1, fs)] [(jFy, jYb dC dI G0)] s.heap [] := jSt.start hX hP0 hM0 hI0
  clear hX hP0
  have hkm32700 : ((-32700) : Int32).toInt = (-32700) := by decide
  have hkm32600 : ((-32600) : Int32).toInt = (-32600) := by decide
  have hkm1 : ((-1) : Int32).toInt = (-1) := by decide
  have hk0 : (0 : Int32).toInt = 0 := by decide
  have hk1 : (1 : Int32).toInt = 1 := by decide
  have hk3 : (3 : Int32).toInt = 3 := by decide
  have hly_4_0 := htw (u_lay RX2 TX2 0) (jWc_wsX20 _ (u_in_lay (by decide)))
  have hly_4_1 := htw (u_lay RX2 TX2 1) (jWc_wsX20 _ (u_in_lay (by decide)))
  have hly_10_0 := htw (u_lay RX8 TX8 0) (jWc_wsX80 _ (u_in_lay (by decide)))
  have hly_13_1 := htw (u_lay RX11 TX11 1) (jWc_wsX110 _ (u_in_lay (by decide)))
  have hly_13_2 := htw (u_lay RX11 TX11 2) (jWc_wsX110 _ (u_in_lay (by decide)))
  have hlk_28 := (htw (.fieldLink RX11 28 "ProofServer" "json" "LProofServer$Json;") (jWr_1 _ (List.mem_of_getElem? (i := 23) rfl)))
  have hlk_21 := (htw (.fieldLink RX11 21 "ProofServer" "frames" "LProofServer$Frames;") (jWr_1 _ (List.mem_of_getElem? (i := 19) rfl)))
  have hlk_253 := (htw (.fieldLink RX11 253 "ProofServer$Frames" "body" "[B") (jWr_19 _ (List.mem_of_getElem? (i := 1) rfl)))
  have hlk_255 := (htw (.fieldLink RX11 255 "ProofServer$Frames" "length" "I") (jWr_19 _ (List.mem_of_getElem? (i := 2) rfl)))
  obtain ⟨str259, rstr259, hstr2590⟩ := hG.str (o := RX11) (k := 259) (tx := "id") (List.mem_of_getElem? (i := 730) (by decide +kernel))
  have hstr259 : jStr base str259 2 s s.heap := hstr2590
  obtain ⟨str271, rstr271, hstr2710⟩ := hG.str (o := RX11) (k := 271) (tx := "params") (List.mem_of_getElem? (i := 852) (by decide +kernel))
  have hstr271 : jStr base str271 6 s s.heap := hstr2710
  obtain ⟨str273, rstr273, hstr2730⟩ := hG.str (o := RX11) (k := 273) (tx := "jsonrpc") (List.mem_of_getElem? (i := 853) (by decide +kernel))
  have hstr273 : jStr base str273 7 s s.heap := hstr2730
  obtain ⟨str275, rstr275, hstr2750⟩ := hG.str (o := RX11) (k := 275) (tx := "2.0") (List.mem_of_getElem? (i := 854) (by decide +kernel))
  have hstr275 : jStr base str275 3 s s.heap := hstr2750
  obtain ⟨str281, rstr281, hstr2810⟩ := hG.str (o := RX11) (k := 281) (tx := "method") (List.mem_of_getElem? (i := 859) (by decide +kernel))
  have hstr281 : jStr base str281 6 s s.heap := hstr2810
  have hlk_114 := (htw (.fieldLink RX11 114 "ProofServer$Request" "id" "LProofServer$Bytes;") (jWr_17 _ (List.mem_of_getElem? (i := 9) rfl)))
  have hbs : base ≤ s.heap.size := Nat.le_of_lt (Nat.lt_of_le_of_lt (hh.ab hg_r0).1 (hh.ab hg_r0).2)
  have hRc : R.cells = LC - s.heap.size := by rw [← hR]; rfl
  have hRs : R.slots = LS - jTot s.heap := by rw [← hR]; rfl
  have hh_1 := hh.addI (jOl.ie (dC := dC) (dI := dI) (G0 := G0) (k := 2) (rs := [bo, ou]) (H0 := s.heap) (F := [(2, 0), (2, 1)]) (C := RX0) (T := TX0) (N := 2) rfl (by decide) hh.2.2.2.2.1 (jOl.rf))
  clear hh
  refine lv_aload_n hx hb dX11_understood_0 rfl (lv_at hl 0 rfl) ?_
  refine j7_read hx hb hown hK (C := RX11) (T := TX11) (N := 19) rfl hly_13_2 hlk_28 (hh_1.at 4 rfl) dX11_understood_1 ?_
  refine lv_aload_n hx hb dX11_understood_4 rfl (lv_at hl 0 rfl) ?_
  refine j7_read hx hb hown hK (C := RX11) (T := TX11) (N := 19) rfl hly_13_1 hlk_21 (hh_1.at 10 rfl) dX11_understood_5 ?_
  obtain ⟨v_2, hv_2, hh_3⟩ := hh_1.pin (C := RX2) (T := TX2) (N := 12) hB4 rfl (by decide) hg_fm (i := 0) (by decide) rfl
  clear hh_1
  obtain ⟨body_4, rfl, hg_body_4⟩ := hv_2
  refine j7_read hx hb hown hK (C := RX2) (T := TX2) (N := 12) rfl hly_4_0 hlk_253 (hh_3.at 0 rfl) dX11_understood_8 ?_
  refine lv_aload_n hx hb dX11_understood_11 rfl (lv_at hl 0 rfl) ?_
  refine j7_read hx hb hown hK (C := RX11) (T := TX11) (N := 19) rfl hly_13_1 hlk_21 (hh_3.at 11 rfl) dX11_understood_12 ?_
  refine j7_read hx hb hown hK (C := RX2) (T := TX2) (N := 12) rfl hly_4_1 hlk_255 (hh_3.at 12 rfl) dX11_understood_15 ?_
  have hsz_5 := hh_3.2.2.2.2.2.1
  have htt_5 := hh_3.2.2.2.2.2.2.1
  refine W.room (fun hrc_5 hrs_5 => ?_)
  refine va_calli (A0 := jA base) (H0 := s.heap) (va_runV (As := [.ref body_4, .int fl]) (rest := []) ⟨hx, hb, hml, hown, hts⟩ (uX4_readP l dC dI ca base B hB hAp hB6 hB100 hB140 hB141 hB142 hB143 hB144 hB145 hB146 G0 s.heap js body_4 fl 3000 wk wi wz jkf jks fk fi fz fa fs) (cwV 2 hts (jgV (jWr_19 _ (List.mem_of_getElem? (i := 6) rfl)) (jWr_19 _ (List.mem_of_getElem? (i := 7) rfl)) (jWr_19 _ (List.mem_of_getElem? (i := 8) rfl)) (jWr_1 _ (List.mem_of_getElem? (i := 22) rfl)) (jWr_19 _ (List.mem_of_getElem? (i := 9) rfl))) rfl rfl rfl (by decide +kernel) ⟨by rw [← hR]; exact Nat.le_of_ble_eq_true rfl, by rw [← hR]; exact Nat.le_of_ble_eq_true rfl⟩) ⟨fun a U g mk q => by obtain ⟨q0, q1, q2, qK, q10, q11, q12, q13, q14, q15, q16, q17, q18, q19⟩ := q; exact ⟨q0, q1, q2, jG.calling g mk a qK, q10, q11, q12, q13, q14, q15, q16, q17, q18, q19⟩, hh_3.recv (C := RX4) (T := TX4) (N := 12) hB6 rfl (by decide) hg_js hK, fun U hU hW => ⟨rfl, hU, hh_3.2.1, hG.step hW hU hh_3.1, hg_body_4, hg_js, hg_wk, hg_wi, hg_wz, hg_jkf, hg_jks, (hh_3.2.2.1.sub (L1 := [(js, 6, 0, .ref wk), (js, 6, 1, .ref wi), (js, 6, 2, .ref wz), (js, 6, 4, .ref jkf), (js, 6, 5, .ref jks)]) [6, 7, 8, 9, 10] rfl), (hh_3.2.2.2.2.2.2.2.1.sub (L1 := [(wk, 140, 1502, ca 1, fk), (wi, 141, 1502, ca 1, fi), (wz, 142, 1502, ca 1, fz), (jkf, 144, 1502, ca 1, fa), (jks, 145, 1502, ca 1, fs)]) [0, 1, 2, 3, 4] rfl), ⟨(by first | omega | rfl | assumption | fail), (by first | omega | rfl | assumption | fail)⟩⟩⟩ rfl rfl hl.1 rfl (lv_room (Nat.le_of_ble_eq_true rfl)) dX11_understood_18 ⟨by rw [hRc]; show _ + 0 ≤ _; omega, by rw [hRs]; show _ + 0 ≤ _; omega⟩) hh_3.1 (fun q _ h => h) (fun q h => h) (fun r_6 u_5 t_5 H_5 locs_5 ht_5 hvm_5 hr_6 hb_5 hz_5 hk_5 hS_5 => ?_)
  obtain ⟨qv_5, qu_5, gk_5, gi_5, gz_5, ga_5, gs_5⟩ := u_5
  rw [ht_5] at hb_5
  obtain ⟨⟨hb_51, hb_52, hb_53, hb_54, hb_55⟩, hb_56⟩ := hb_5
  have hh_5 : jSt (dC, dI) B base G0 G0 EX11_understood s.heap 0 0 [(js, 6, 7, .int qv_5), (js, 6, 8, .int qu_5), (fm, 4, 0, .ref body_4), (r0, 13, 4, .ref bo), (bo, 2, 1, .int pc), (bo, 2, 0, .ref pa), (r0, 13, 3, .ref ou), (r0, 13, 2, .ref js), (js, 6, 0, .ref wk), (js, 6, 1, .ref wi), (js, 6, 2, .ref wz), (js, 6, 4, .ref jkf), (js, 6, 5, .ref jks), (r0, 13, 1, .ref fm), (fm, 4, 1, .int fl)] [(wk, 140, 1502, ca 1, gk_5), (wi, 141, 1502, ca 1, gi_5), (wz, 142, 1502, ca 1, gz_5), (jkf, 144, 1502, ca 1, ga_5), (jks, 145, 1502, ca 1, gs_5)] [([(2, 0), (2, 1)], jOl (dC, dI) G0 2 [bo, ou] s.heap), (jFy, jYb dC dI G0)] H_5 locs_5 := ((hh_3.call hb_51 hb_52 hb_53 hb_54 hS_5 rfl (L1 := [(fm, 4, 0, .ref body_4), (r0, 13, 4, .ref bo), (bo, 2, 1, .int pc), (bo, 2, 0, .ref pa), (r0, 13, 3, .ref ou), (r0, 13, 2, .ref js), (js, 6, 0, .ref wk), (js, 6, 1, .ref wi), (js, 6, 2, .ref wz), (js, 6, 4, .ref jkf), (js, 6, 5, .ref jks), (r0, 13, 1, .ref fm), (fm, 4, 1, .int fl)]) [0, 1, 2, 3, 4, 5, 6, 7, 8, 9, 10, 11, 12] rfl rfl (M1 := []) [] rfl rfl (I1 := [([(2, 0), (2, 1)], jOl (dC, dI) G0 2 [bo, ou] s.heap), (jFy, jYb dC dI G0)]) [0, 1] rfl rfl).more hb_55).moreM hb_56
  clear hh_3 ht_5 hvm_5 hz_5 hk_5 hS_5 hb_51 hb_52 hb_53 hb_54 hb_55
  clear hb_56
  try simp only at hr_6
  obtain ⟨hr_6b, hr_6p⟩ := hr_6
  obtain ⟨hr_6p_0, hr_6p_1, hr_6p_2, hr_6p_3⟩ := hr_6p
  have hj1 := hr_6p_2.1
  have hr_6' := jb_01 hr_6b
  refine lv_istore_n (lv' := [(1, .int r_6), (0, .ref r0)]) hx hb dX11_understood_21 rfl hl (by decide) rfl (fun ls hl => ?_)
  refine lv_iload_n hx hb dX11_understood_22 rfl (lv_at hl 0 rfl) ?_
  refine lv_if_eq (tgt := 40) hx hb dX11_understood_23 (by decide) (fun c_7 => ?_) (fun c_7 => ?_)
  · skip
    have c_7' : r_6.toInt = 0 := jb_eq (rfl) ((by decide)) c_7
    first | (have hr_6p_3q := hr_6p_3.resolve_left (by omega); clear hr_6p_3) | (have hr_6p_3q := hr_6p_3.resolve_right (by omega); clear hr_6p_3) | skip
    refine lv_iconst (v := (-1)) hx hb dX11_understood_40 (by decide) ?_
    refine lv_istore_n (lv' := [(2, .int (-1)), (1, .int r_6), (0, .ref r0)]) hx hb dX11_understood_41 rfl hl (by decide) rfl (fun ls hl => ?_)
    have hsz_8 := hh_5.2.2.2.2.2.1
    have htt_8 := hh_5.2.2.2.2.2.2.1
    refine j7_newo (k := 10) (C := RX8) (T := TX8) (N := 5) (fs := [.null, .null, .int 0, .int 0, .int 0]) hx hb htw jWc_wsX80 (fun k => ([(.object "ProofServer$Bytes"), (.object "ProofServer$Document"), .int, .boolean, .int] : List FieldType).getD k .int) (by decide +kernel) hown (htw (.classLink RX11 115 RX8) (jWr_19 _ (List.mem_of_getElem? (i := 3) rfl))) (htw (.instantiable RX8 5) (jWr_19 _ (List.mem_of_getElem? (i := 4) rfl))) (htw (.initialized RX8) (jWr_19 _ (List.mem_of_getElem? (i := 5) rfl))) hK rfl (fun j hj => by rcases (by omega : j = 0 ∨ j = 1 ∨ j = 2 ∨ j = 3 ∨ j = 4) with rfl | rfl | rfl | rfl | rfl <;> rfl) hh_5 hB (by rw [hRc]; omega) (by rw [hRs]; omega) dX11_understood_42 (fun H_8 hraw_8 hfr_8 hnr_8 hh_8 => ?_)
    have hke_8 : jKe G0 G0 H_5 H_8 := jKe.raw hfr_8
    have hbr_8 : base ≤ H_5.size := Nat.le_trans hbs hh_5.1.1
    have hsy_8 : s.heap.size ≤ H_5.size := hh_5.1.1
    clear hh_5
    refine lv_dup hx hb dX11_understood_45 rfl ?_
    refine lv_aload_n hx hb dX11_understood_46 rfl (lv_at hl 2 rfl) ?_
    refine j7_read hx hb hown hK (C := RX11) (T := TX11) (N := 19) rfl hly_13_2 hlk_28 (hh_8.at 7 rfl) dX11_understood_47 ?_
    refine lv_iload_n hx hb dX11_understood_50 rfl (lv_at hl 0 rfl) ?_
    have hsz_9 := hh_8.2.2.2.2.2.1
    have htt_9 := hh_8.2.2.2.2.2.2.1
    refine W.room (fun hrc_9 hrs_9 => ?_)
    refine va_callv (A0 := jA base) (H0 := s.heap) (va_runI (As := [.ref js, .int (-1)]) (rest := [.ref H_5.size]) ⟨hx, hb, hml, hown, hts⟩ (uX8_init l dC dI ca base B hB hAp hB2 hB6 hB10 hB101 hB140 hB141 hB142 hB146 hB196 G0 H_8 H_5.size js (-1) qv_5 wk wi wz gk_5 gi_5 gz_5 LC LS) (cwI 2 hts (jgW (jWr_24 _ (List.mem_of_getElem? (i := 0) rfl))) rfl rfl rfl (htw (.initialized RX8) (jWr_19 _ (List.mem_of_getElem? (i := 5) rfl))) (htw (.methodLink RX11 264 yX8_init) (jWr_23 _ (List.mem_of_getElem? (i := 22) rfl))) (htw (.instanceMethod yX8_init) (jWr_23 _ (List.mem_of_getElem? (i := 23) rfl))) rfl (by decide +kernel) ⟨by rw [← hR]; exact Nat.le_of_ble_eq_true rfl, by rw [← hR]; exact Nat.le_of_ble_eq_true rfl⟩) ⟨fun a U g mk q => by obtain ⟨q0, q1, q2, qK, q10, q11, q12, q13, q14, q15, q16, q17, q18, q19, q20⟩ := q; exact ⟨q0, q1, q2, jG.calling g mk a qK, q10, q11, q12, q13, q14, q15, q16, q17, q18, q19, q20⟩, fun U hU hW => ⟨rfl, hU, hh_8.2.1, hG.step hW hU hh_8.1, hg_js, hraw_8, hnr_8, hbr_8, hg_wk, hg_wi, hg_wz, (hh_8.2.2.1.sub (L1 := [(js, 6, 7, .int qv_5), (js, 6, 0, .ref wk), (js, 6, 1, .ref wi), (js, 6, 2, .ref wz)]) [0, 8, 9, 10] rfl), (hh_8.2.2.2.2.2.2.2.1.sub (L1 := [(wk, 140, 1502, ca 1, gk_5), (wi, 141, 1502, ca 1, gi_5), (wz, 142, 1502, ca 1, gz_5)]) [0, 1, 2] rfl), (hh_8.2.2.2.2.2.2.2.2.sub (L1 := [(jFy, jYb dC dI G0)]) [1] rfl), (by omega), (by omega), ⟨(by first | omega | rfl | assumption | exact hr_6p_2.p hr_6p_1), (by first | omega | rfl | assumption | exact hr_6p_2.p hr_6p_1), (by first | assumption | exact hr_6p_2.p hr_6p_1 | omega)⟩⟩⟩ rfl rfl hl.1 rfl (lv_room (Nat.le_of_ble_eq_true rfl)) dX11_understood_51 ⟨by rw [hRc]; omega, by rw [hRs]; omega⟩) hh_8.1 (fun q _ h => h) (fun q h => h) (fun u_9 t_9 H_9 locs_9 ht_9 hvm_9 hr_10 hb_9 hz_9 hk_9 hS_9 => ?_)
    rw [ht_9] at hb_9
    obtain ⟨G_9, rfl⟩ : ∃ z, z = u_9 := ⟨_, rfl⟩
    try simp only at hb_9
    obtain ⟨⟨hb_91, hb_92, hb_93, hb_94, hb_95, hb_96⟩, hN_9, hbO_9, hgc_9, hbE_9⟩ := hb_9
    have hh_9 : jSt (dC, dI) B base G0 G_9 EX11_understood s.heap ((0 + 1) + (10)) ((0 + 5) + (262)) [(js, 6, 7, .int qv_5), (js, 6, 8, .int qu_5), (fm, 4, 0, .ref body_4), (r0, 13, 4, .ref bo), (r0, 13, 3, .ref ou), (r0, 13, 2, .ref js), (js, 6, 0, .ref wk), (js, 6, 1, .ref wi), (js, 6, 2, .ref wz), (js, 6, 4, .ref jkf), (js, 6, 5, .ref jks), (r0, 13, 1, .ref fm), (fm, 4, 1, .int fl)] [(wk, 140, 1502, ca 1, gk_5), (wi, 141, 1502, ca 1, gi_5), (wz, 142, 1502, ca 1, gz_5), (jkf, 144, 1502, ca 1, ga_5), (jks, 145, 1502, ca 1, gs_5)] [] H_9 locs_9 := (hh_8.callG hb_91 hb_92 hb_93 hb_94 hb_95 hS_9 rfl (L1 := [(js, 6, 7, .int qv_5), (js, 6, 8, .int qu_5), (fm, 4, 0, .ref body_4), (r0, 13, 4, .ref bo), (r0, 13, 3, .ref ou), (r0, 13, 2, .ref js), (js, 6, 0, .ref wk), (js, 6, 1, .ref wi), (js, 6, 2, .ref wz), (js, 6, 4, .ref jkf), (js, 6, 5, .ref jks), (r0, 13, 1, .ref fm), (fm, 4, 1, .int fl)]) [0, 1, 2, 3, 6, 7, 8, 9, 10, 11, 12, 13, 14] rfl rfl (M1 := [(wk, 140, 1502, ca 1, gk_5), (wi, 141, 1502, ca 1, gi_5), (wz, 142, 1502, ca 1, gz_5), (jkf, 144, 1502, ca 1, ga_5), (jks, 145, 1502, ca 1, gs_5)]) [0, 1, 2, 3, 4] rfl rfl (I1 := []) [] rfl rfl).more hb_96
    have hNn_9 : (jNk [0, 1, 3, 4, 5, 6, 7, 8, 9, 11, 12, 13, 14, 15, 16]) G0 G_9 := (jNk.rf).tr hN_9
    have hg_11 := hb_92 _ _ hg_r0
    have hg_12 := hb_92 _ _ hg_body_4
    have hg_13 := hb_92 _ _ hg_bo
    have hg_14 := hb_92 _ _ hg_ou
    have hg_15 := hb_92 _ _ hg_js
    have hg_16 := hb_92 _ _ hg_wk
    have hg_17 := hb_92 _ _ hg_wi
    have hg_18 := hb_92 _ _ hg_wz
    have hg_19 := hb_92 _ _ hg_jkf
    have hg_20 := hb_92 _ _ hg_jks
    have hg_21 := hb_92 _ _ hg_fm
    have hh_22 := hh_9.addIs hbE_9
    have hh_23 := hh_22.more (P1 := [(bo, 2, 1, .int pc), (bo, 2, 0, .ref pa)]) (jP.cons hg_13 (hbO_9 _ _ _ _ (by simp) hg_bo (hh_8.at 4 rfl)) (jP.cons hg_13 (hbO_9 _ _ _ _ (by simp) hg_bo (hh_8.at 5 rfl)) jP.nil))
    have hg_24 := hb_92 _ _ hg_pa
    have hd_25 := jOl.trL (hh_8.iv 0 rfl) hh_8.2.2.2.2.1 hbO_9 (by simp)
    have hh_26 := hh_23.addI (jOl.ie (dC := dC) (dI := dI) (G0 := G0) (k := 2) (rs := [bo, ou]) (H0 := s.heap) (F := [(2, 0), (2, 1)]) (C := RX0) (T := TX0) (N := 2) rfl (by decide) hh_23.2.2.2.2.1 (hd_25))
    clear hh_23
    try simp only at hr_10
    have hh_27 := hh_26.wk (zc1 := (n_pa - n_pa) / 16 + 11) (zs1 := 2 * (n_pa - n_pa) + 267) (by omega) (by omega)
    clear hh_26
    try clear hsz_9 htt_9 hrc_9 hrs_9
    try clear hb_94 hb_95
    refine lv_astore_n (lv' := [(3, .ref H_5.size), (2, .int (-1)), (1, .int r_6), (0, .ref r0)]) hx hb dX11_understood_54 rfl hl (by decide) rfl (fun ls hl => ?_)
    refine lv_iload_n hx hb dX11_understood_55 rfl (lv_at hl 2 rfl) ?_
    refine lv_if_ne (tgt := 69) hx hb dX11_understood_56 (by decide) (fun c_28 => ?_) (fun c_28 => ?_)
    · skip
      have c_28' : r_6.toInt ≠ 0 := jb_ne (rfl) ((by decide)) c_28
      exact (by omega : False).elim
    · skip
      have c_28' : r_6.toInt = 0 := jb_ne_n (rfl) ((by decide)) c_28
      first | (have hr_6p_3q := hr_6p_3.resolve_left (by omega); clear hr_6p_3) | (have hr_6p_3q := hr_6p_3.resolve_right (by omega); clear hr_6p_3) | skip
      refine lv_aload_n hx hb dX11_understood_59 rfl (lv_at hl 3 rfl) ?_
      refine lv_aload_n hx hb dX11_understood_60 rfl (lv_at hl 0 rfl) ?_
      refine lv_sipush (v := (-32700)) hx hb dX11_understood_61 (by decide) ?_
      have hsz_29 := hh_27.2.2.2.2.2.1
      have htt_29 := hh_27.2.2.2.2.2.2.1
      refine W.room (fun hrc_29 hrs_29 => ?_)
      refine va_callv (A0 := jA base) (H0 := s.heap) (va_runV (As := [.ref H_5.size, .int (-32700)]) (rest := []) ⟨hx, hb, hml, hown, hts⟩ (uX11_refuse l dC dI ca base B hB hAp hB2 hB4 hB10 hB13 hB196 G_9 H_9 r0 H_5.size (-32700) bo pc pa n_pa ou LC LS) (cwV 2 hts (jgV (jWr_26 _ (List.mem_of_getElem? (i := 3) rfl)) (jWr_26 _ (List.mem_of_getElem? (i := 4) rfl)) (jWr_26 _ (List.mem_of_getElem? (i := 5) rfl)) (jWr_1 _ (List.mem_of_getElem? (i := 2) rfl)) (jWr_26 _ (List.mem_of_getElem? (i := 6) rfl))) rfl rfl rfl (by decide +kernel) ⟨by rw [← hR]; exact Nat.le_of_ble_eq_true rfl, by rw [← hR]; exact Nat.le_of_ble_eq_true rfl⟩) ⟨fun a U g mk q => by obtain ⟨q0, q1, q2, qK, q10, q11, q12, q13, q14, q15, q16, q17⟩ := q; exact ⟨q0, q1, q2, jG.calling g mk a qK, q10, q11, q12, q13, q14, q15, q16, q17⟩, hh_27.recv (C := RX11) (T := TX11) (N := 19) hB13 rfl (by decide) hg_11 hK, fun U hU hW => ⟨rfl, hU, hh_27.2.1, hG.step hW hU hh_27.1, hgc_9, hg_11, hg_13, hg_24, hg_14, (hh_27.2.2.1.sub (L1 := [(r0, 13, 4, .ref bo), (bo, 2, 1, .int pc), (bo, 2, 0, .ref pa), (r0, 13, 3, .ref ou)]) [5, 0, 1, 6] rfl), (hh_27.2.2.2.2.2.2.2.2.sub (L1 := [(jFy, jYb dC dI G_9)]) [1] rfl), (by omega), (by omega), ⟨(by first | omega | rfl | assumption | fail), (by first | omega | rfl | assumption | fail), (by first | omega | rfl | assumption | fail), (by first | omega | rfl | assumption | fail), (by first | assumption | fail | omega)⟩⟩⟩ rfl rfl hl.1 rfl (lv_room (Nat.le_of_ble_eq_true rfl)) dX11_understood_64 ⟨by rw [hRc]; omega, by rw [hRs]; omega⟩) hh_27.1 (fun q _ h => h) (fun q h => h) (fun u_29 t_29 H_29 locs_29 ht_29 hvm_29 hr_30 hb_29 hz_29 hk_29 hS_29 => ?_)
      obtain ⟨qc_29, qa_29, m_qa_29, G_29⟩ := u_29
      rw [ht_29] at hb_29
      simp only at hb_29
      obtain ⟨⟨hb_291, hb_292, hb_293, hb_294, hb_295, hb_296⟩, hgq_29_0, hN_29, hbO_29, hbE_29⟩ := hb_29
      have hY_29 := hN_29
      have hN_29 : (jNk [0, 1, 3, 4, 5, 6, 7, 8, 9, 11, 12, 13, 14, 15, 16]) G_9 G_29 := hN_29.sub (by decide)
      have hh_29 : jSt (dC, dI) B base G0 G_29 EX11_understood s.heap (((n_pa - n_pa) / 16 + 11) + ((m_qa_29 - n_pa) / 16)) ((2 * (n_pa - n_pa) + 267) + (2 * (m_qa_29 - n_pa))) [(bo, 2, 1, .int qc_29), (bo, 2, 0, .ref qa_29), (js, 6, 7, .int qv_5), (js, 6, 8, .int qu_5), (fm, 4, 0, .ref body_4), (r0, 13, 4, .ref bo), (r0, 13, 3, .ref ou), (r0, 13, 2, .ref js), (js, 6, 0, .ref wk), (js, 6, 1, .ref wi), (js, 6, 2, .ref wz), (js, 6, 4, .ref jkf), (js, 6, 5, .ref jks), (r0, 13, 1, .ref fm), (fm, 4, 1, .int fl)] [(wk, 140, 1502, ca 1, gk_5), (wi, 141, 1502, ca 1, gi_5), (wz, 142, 1502, ca 1, gz_5), (jkf, 144, 1502, ca 1, ga_5), (jks, 145, 1502, ca 1, gs_5)] [] H_29 locs_29 := (hh_27.callG hb_291 hb_292 hb_293 hb_294 hb_295 hS_29 rfl (L1 := [(js, 6, 7, .int qv_5), (js, 6, 8, .int qu_5), (fm, 4, 0, .ref body_4), (r0, 13, 4, .ref bo), (r0, 13, 3, .ref ou), (r0, 13, 2, .ref js), (js, 6, 0, .ref wk), (js, 6, 1, .ref wi), (js, 6, 2, .ref wz), (js, 6, 4, .ref jkf), (js, 6, 5, .ref jks), (r0, 13, 1, .ref fm), (fm, 4, 1, .int fl)]) [2, 3, 4, 5, 6, 7, 8, 9, 10, 11, 12, 13, 14] rfl rfl (M1 := [(wk, 140, 1502, ca 1, gk_5), (wi, 141, 1502, ca 1, gi_5), (wz, 142, 1502, ca 1, gz_5), (jkf, 144, 1502, ca 1, ga_5), (jks, 145, 1502, ca 1, gs_5)]) [0, 1, 2, 3, 4] rfl rfl (I1 := []) [] rfl rfl).more hb_296
      have hNn_29 : (jNk [0, 1, 3, 4, 5, 6, 7, 8, 9, 11, 12, 13, 14, 15, 16]) G0 G_29 := (hNn_9).tr hN_29
      have hg_31 := hb_292 _ _ hgc_9
      have hg_32 := hb_292 _ _ hg_11
      have hg_33 := hb_292 _ _ hg_12
      have hg_34 := hb_292 _ _ hg_13
      have hg_35 := hb_292 _ _ hg_14
      have hg_36 := hb_292 _ _ hg_15
      have hg_37 := hb_292 _ _ hg_16
      have hg_38 := hb_292 _ _ hg_17
      have hg_39 := hb_292 _ _ hg_18
      have hg_40 := hb_292 _ _ hg_19
      have hg_41 := hb_292 _ _ hg_20
      have hg_42 := hb_292 _ _ hg_21
      have hh_43 := hh_29.addIs hbE_29
      have hd_44 := jOl.trL (hh_27.iv 0 rfl) hh_27.2.2.2.2.1 hbO_29 (by simp)
      have hh_45 := hh_43.addI (jOl.ie (dC := dC) (dI := dI) (G0 := G0) (k := 2) (rs := [bo, ou]) (H0 := s.heap) (F := [(2, 0), (2, 1)]) (C := RX0) (T := TX0) (N := 2) rfl (by decide) hh_43.2.2.2.2.1 (hd_44))
      clear hh_43
      try simp only at hr_30
      obtain ⟨hr_30_0, hr_30_1, hr_30_2, hr_30_3, hr_30_4⟩ := hr_30
      have hh_46 := hh_45.wk (zc1 := (m_qa_29 - n_pa) / 16 + 11) (zs1 := 2 * (m_qa_29 - n_pa) + 267) (by omega) (by omega)
      clear hh_45
      try clear hsz_29 htt_29 hrc_29 hrs_29
      try clear hb_294 hb_295
      refine lv_null hx hb dX11_understood_67 ?_
      have hsz_47 := hh_46.2.2.2.2.2.1
      have htt_47 := hh_46.2.2.2.2.2.2.1
      refine W.room (fun hrc_47 hrs_47 => ?_)
      refine W.widen (k := LC - s.heap.size) (n := LS - jTot s.heap) (by omega) (by omega) ?_
      rw [hQ]
      exact W.aret (v := .null) hx hb hr (Or.inl ⟨_, rfl⟩) (Or.inl rfl) (fun t ht hW => ⟨⟨.null, (qc_29, qv_5, qu_5, qa_29, m_qa_29, gk_5, gi_5, gz_5, ga_5, gs_5, 0, G_29), rfl, ⟨Or.inl rfl, by skip; (try dsimp only); refine ⟨by omega, by omega, by omega, by omega, by assumption, by omega, by omega, by omega, hr_6p_2, ?_⟩; exact Or.inl rfl⟩, ⟨hh_46.ra (by first | omega | (simp only; omega)) (by first | omega | (simp only; omega)) (M1 := [(bo, 2, 1, .int qc_29), (js, 6, 7, .int qv_5), (js, 6, 8, .int qu_5), (bo, 2, 0, .ref qa_29)]) [0, 2, 3, 1] rfl ht, hgq_29_0, hNn_29, by rw [ht]; exact hh_46.iv 0 rfl, by rw [ht]; exact hh_46.2.2.2.2.2.2.2.2.sub (L1 := [(jFy, jYb dC dI G_29)]) [1] rfl, by rw [ht]; exact hh_46.2.2.2.2.2.2.2.1.sub [0, 1, 2, 3, 4] rfl⟩⟩, by rw [ht]; try exact hh_46.1.1, fun q h9 hq => by rw [ht]; try exact hh_46.1.2.1 q h9 hq⟩) hh_46.1.2.2 dX11_understood_68
  · skip
    have c_7' : r_6.toInt ≠ 0 := jb_eq_n (rfl) ((by decide)) c_7
    first | (have hr_6p_3q := hr_6p_3.resolve_left (by omega); clear hr_6p_3) | (have hr_6p_3q := hr_6p_3.resolve_right (by omega); clear hr_6p_3) | skip
    refine lv_aload_n hx hb dX11_understood_26 rfl (lv_at hl 1 rfl) ?_
    refine j7_read hx hb hown hK (C := RX11) (T := TX11) (N := 19) rfl hly_13_2 hlk_28 (hh_5.at 7 rfl) dX11_understood_27 ?_
    refine lv_iconst (v := 0) hx hb dX11_understood_30 (by decide) ?_
    refine j_ldcSw hx hb hown rstr259 dX11_understood_31 ?_
    have hsz_48 := hh_5.2.2.2.2.2.1
    have htt_48 := hh_5.2.2.2.2.2.2.1
    refine W.room (fun hrc_48 hrs_48 => ?_)
    refine va_calli (A0 := jA base) (H0 := s.heap) (va_runV (As := [.int 0, .ref str259]) (rest := []) ⟨hx, hb, hml, hown, hts⟩ (uX4_memberQ l dC dI ca base B hB hAp hB6 hB140 hB141 hB142 hB143 hB144 hB145 hB146 G0 H_5 js 0 str259 2 qv_5 wk wi wz jks gk_5 gi_5 gz_5 gs_5) (cwV 2 hts (jgV (jWr_23 _ (List.mem_of_getElem? (i := 10) rfl)) (jWr_23 _ (List.mem_of_getElem? (i := 11) rfl)) (jWr_23 _ (List.mem_of_getElem? (i := 12) rfl)) (jWr_1 _ (List.mem_of_getElem? (i := 22) rfl)) (jWr_23 _ (List.mem_of_getElem? (i := 13) rfl))) rfl rfl rfl (by decide +kernel) ⟨by rw [← hR]; exact Nat.le_of_ble_eq_true rfl, by rw [← hR]; exact Nat.le_of_ble_eq_true rfl⟩) ⟨fun a U g mk q => by obtain ⟨q0, q1, q2, qK, q10, q11, q12, q13, q14, q15, q16, q17, q18⟩ := q; exact ⟨q0, q1, q2, jG.calling g mk a qK, (q10.moved (Vm.Alike.refl U.vm)), q11, q12, q13, q14, q15, q16, q17, q18⟩, hh_5.recv (C := RX4) (T := TX4) (N := 12) hB6 rfl (by decide) hg_js hK, fun U hU hW => ⟨rfl, hU, hh_5.2.1, hG.step hW hU hh_5.1, (hstr259.moved hW.alike).kept hh_5.1.2.1, hg_js, hg_wk, hg_wi, hg_wz, hg_jks, (hh_5.2.2.1.sub (L1 := [(js, 6, 7, .int qv_5), (js, 6, 0, .ref wk), (js, 6, 1, .ref wi), (js, 6, 2, .ref wz), (js, 6, 5, .ref jks)]) [0, 8, 9, 10, 12] rfl), (hh_5.2.2.2.2.2.2.2.1.sub (L1 := [(wk, 140, 1502, ca 1, gk_5), (wi, 141, 1502, ca 1, gi_5), (wz, 142, 1502, ca 1, gz_5), (jks, 145, 1502, ca 1, gs_5)]) [0, 1, 2, 4] rfl), ⟨(by first | omega | rfl | assumption | fail), (by first | omega | rfl | assumption | fail), (by first | omega | rfl | assumption | fail)⟩⟩⟩ rfl rfl hl.1 rfl (lv_room (Nat.le_of_ble_eq_true rfl)) dX11_understood_34 ⟨by rw [hRc]; show _ + 0 ≤ _; omega, by rw [hRs]; show _ + 0 ≤ _; omega⟩) hh_5.1 (fun q _ h => h) (fun q h => h) (fun r_49 u_48 t_48 H_48 locs_48 ht_48 hvm_48 hr_49 hb_48 hz_48 hk_48 hS_48 => ?_)
    rw [ht_48] at hb_48
    obtain ⟨hb_48, hbF_48⟩ := hb_48
    obtain ⟨hb_481, hb_482, hb_483, hb_484, hb_485⟩ := hb_48
    have hh_48 : jSt (dC, dI) B base G0 G0 EX11_understood s.heap 0 0 [(js, 6, 7, .int qv_5), (js, 6, 8, .int qu_5), (fm, 4, 0, .ref body_4), (r0, 13, 4, .ref bo), (bo, 2, 1, .int pc), (bo, 2, 0, .ref pa), (r0, 13, 3, .ref ou), (r0, 13, 2, .ref js), (js, 6, 0, .ref wk), (js, 6, 1, .ref wi), (js, 6, 2, .ref wz), (js, 6, 4, .ref jkf), (js, 6, 5, .ref jks), (r0, 13, 1, .ref fm), (fm, 4, 1, .int fl)] [(wk, 140, 1502, ca 1, gk_5), (wi, 141, 1502, ca 1, gi_5), (wz, 142, 1502, ca 1, gz_5), (jkf, 144, 1502, ca 1, ga_5), (jks, 145, 1502, ca 1, gs_5)] [([(2, 0), (2, 1)], jOl (dC, dI) G0 2 [bo, ou] s.heap), (jFy, jYb dC dI G0)] H_48 locs_48 := ((hh_5.call hb_481 hb_482 hb_483 hb_484 hS_48 rfl (L1 := [(js, 6, 7, .int qv_5), (js, 6, 8, .int qu_5), (fm, 4, 0, .ref body_4), (r0, 13, 4, .ref bo), (bo, 2, 1, .int pc), (bo, 2, 0, .ref pa), (r0, 13, 3, .ref ou), (r0, 13, 2, .ref js), (js, 6, 0, .ref wk), (js, 6, 1, .ref wi), (js, 6, 2, .ref wz), (js, 6, 4, .ref jkf), (js, 6, 5, .ref jks), (r0, 13, 1, .ref fm), (fm, 4, 1, .int fl)]) [0, 1, 2, 3, 4, 5, 6, 7, 8, 9, 10, 11, 12, 13, 14] rfl rfl (M1 := [(wk, 140, 1502, ca 1, gk_5), (wi, 141, 1502, ca 1, gi_5), (wz, 142, 1502, ca 1, gz_5), (jkf, 144, 1502, ca 1, ga_5), (jks, 145, 1502, ca 1, gs_5)]) [0, 1, 2, 3, 4] rfl rfl (I1 := [([(2, 0), (2, 1)], jOl (dC, dI) G0 2 [bo, ou] s.heap), (jFy, jYb dC dI G0)]) [0, 1] rfl rfl).more hb_485)
    clear hh_5 ht_48 hvm_48 hz_48 hk_48 hS_48 hb_481 hb_482 hb_483 hb_484 hb_485
    obtain ⟨hr_49_0, hr_49_1, hr_49_2⟩ := hr_49
    refine lv_goto (tgt := 41) hx hb dX11_understood_37 (by decide) ?_
    refine lv_istore_n (lv' := [(2, .int r_49), (1, .int r_6), (0, .ref r0)]) hx hb dX11_understood_41 rfl hl (by decide) rfl (fun ls hl => ?_)
    have hsz_50 := hh_48.2.2.2.2.2.1
    have htt_50 := hh_48.2.2.2.2.2.2.1
    refine j7_newo (k := 10) (C := RX8) (T := TX8) (N := 5) (fs := [.null, .null, .int 0, .int 0, .int 0]) hx hb htw jWc_wsX80 (fun k => ([(.object "ProofServer$Bytes"), (.object "ProofServer$Document"), .int, .boolean, .int] : List FieldType).getD k .int) (by decide +kernel) hown (htw (.classLink RX11 115 RX8) (jWr_19 _ (List.mem_of_getElem? (i := 3) rfl))) (htw (.instantiable RX8 5) (jWr_19 _ (List.mem_of_getElem? (i := 4) rfl))) (htw (.initialized RX8) (jWr_19 _ (List.mem_of_getElem? (i := 5) rfl))) hK rfl (fun j hj => by rcases (by omega : j = 0 ∨ j = 1 ∨ j = 2 ∨ j = 3 ∨ j = 4) with rfl | rfl | rfl | rfl | rfl <;> rfl) hh_48 hB (by rw [hRc]; omega) (by rw [hRs]; omega) dX11_understood_42 (fun H_50 hraw_50 hfr_50 hnr_50 hh_50 => ?_)
    have hke_50 : jKe G0 G0 H_48 H_50 := jKe.raw hfr_50
    have hbr_50 : base ≤ H_48.size := Nat.le_trans hbs hh_48.1.1
    have hsy_50 : s.heap.size ≤ H_48.size := hh_48.1.1
    clear hh_48
    refine lv_dup hx hb dX11_understood_45 rfl ?_
    refine lv_aload_n hx hb dX11_understood_46 rfl (lv_at hl 2 rfl) ?_
    refine j7_read hx hb hown hK (C := RX11) (T := TX11) (N := 19) rfl hly_13_2 hlk_28 (hh_50.at 7 rfl) dX11_understood_47 ?_
    refine lv_iload_n hx hb dX11_understood_50 rfl (lv_at hl 0 rfl) ?_
    have hsz_51 := hh_50.2.2.2.2.2.1
    have htt_51 := hh_50.2.2.2.2.2.2.1
    refine W.room (fun hrc_51 hrs_51 => ?_)
    refine va_callv (A0 := jA base) (H0 := s.heap) (va_runI (As := [.ref js, .int r_49]) (rest := [.ref H_48.size]) ⟨hx, hb, hml, hown, hts⟩ (uX8_init l dC dI ca base B hB hAp hB2 hB6 hB10 hB101 hB140 hB141 hB142 hB146 hB196 G0 H_50 H_48.size js r_49 qv_5 wk wi wz gk_5 gi_5 gz_5 LC LS) (cwI 2 hts (jgW (jWr_24 _ (List.mem_of_getElem? (i := 0) rfl))) rfl rfl rfl (htw (.initialized RX8) (jWr_19 _ (List.mem_of_getElem? (i := 5) rfl))) (htw (.methodLink RX11 264 yX8_init) (jWr_23 _ (List.mem_of_getElem? (i := 22) rfl))) (htw (.instanceMethod yX8_init) (jWr_23 _ (List.mem_of_getElem? (i := 23) rfl))) rfl (by decide +kernel) ⟨by rw [← hR]; exact Nat.le_of_ble_eq_true rfl, by rw [← hR]; exact Nat.le_of_ble_eq_true rfl⟩) ⟨fun a U g mk q => by obtain ⟨q0, q1, q2, qK, q10, q11, q12, q13, q14, q15, q16, q17, q18, q19, q20⟩ := q; exact ⟨q0, q1, q2, jG.calling g mk a qK, q10, q11, q12, q13, q14, q15, q16, q17, q18, q19, q20⟩, fun U hU hW => ⟨rfl, hU, hh_50.2.1, hG.step hW hU hh_50.1, hg_js, hraw_50, hnr_50, hbr_50, hg_wk, hg_wi, hg_wz, (hh_50.2.2.1.sub (L1 := [(js, 6, 7, .int qv_5), (js, 6, 0, .ref wk), (js, 6, 1, .ref wi), (js, 6, 2, .ref wz)]) [0, 8, 9, 10] rfl), (hh_50.2.2.2.2.2.2.2.1.sub (L1 := [(wk, 140, 1502, ca 1, gk_5), (wi, 141, 1502, ca 1, gi_5), (wz, 142, 1502, ca 1, gz_5)]) [0, 1, 2] rfl), (hh_50.2.2.2.2.2.2.2.2.sub (L1 := [(jFy, jYb dC dI G0)]) [1] rfl), (by omega), (by omega), ⟨(by first | omega | rfl | assumption | exact hr_6p_2.p hr_6p_1), (by first | omega | rfl | assumption | exact hr_6p_2.p hr_6p_1), (by first | assumption | exact hr_6p_2.p hr_6p_1 | omega)⟩⟩⟩ rfl rfl hl.1 rfl (lv_room (Nat.le_of_ble_eq_true rfl)) dX11_understood_51 ⟨by rw [hRc]; omega, by rw [hRs]; omega⟩) hh_50.1 (fun q _ h => h) (fun q h => h) (fun u_51 t_51 H_51 locs_51 ht_51 hvm_51 hr_52 hb_51 hz_51 hk_51 hS_51 => ?_)
    rw [ht_51] at hb_51
    obtain ⟨G_51, rfl⟩ : ∃ z, z = u_51 := ⟨_, rfl⟩
    try simp only at hb_51
    obtain ⟨⟨hb_511, hb_512, hb_513, hb_514, hb_515, hb_516⟩, hN_51, hbO_51, hgc_51, hbE_51⟩ := hb_51
    have hh_51 : jSt (dC, dI) B base G0 G_51 EX11_understood s.heap ((0 + 1) + (10)) ((0 + 5) + (262)) [(js, 6, 7, .int qv_5), (js, 6, 8, .int qu_5), (fm, 4, 0, .ref body_4), (r0, 13, 4, .ref bo), (r0, 13, 3, .ref ou), (r0, 13, 2, .ref js), (js, 6, 0, .ref wk), (js, 6, 1, .ref wi), (js, 6, 2, .ref wz), (js, 6, 4, .ref jkf), (js, 6, 5, .ref jks), (r0, 13, 1, .ref fm), (fm, 4, 1, .int fl)] [(wk, 140, 1502, ca 1, gk_5), (wi, 141, 1502, ca 1, gi_5), (wz, 142, 1502, ca 1, gz_5), (jkf, 144, 1502, ca 1, ga_5), (jks, 145, 1502, ca 1, gs_5)] [] H_51 locs_51 := (hh_50.callG hb_511 hb_512 hb_513 hb_514 hb_515 hS_51 rfl (L1 := [(js, 6, 7, .int qv_5), (js, 6, 8, .int qu_5), (fm, 4, 0, .ref body_4), (r0, 13, 4, .ref bo), (r0, 13, 3, .ref ou), (r0, 13, 2, .ref js), (js, 6, 0, .ref wk), (js, 6, 1, .ref wi), (js, 6, 2, .ref wz), (js, 6, 4, .ref jkf), (js, 6, 5, .ref jks), (r0, 13, 1, .ref fm), (fm, 4, 1, .int fl)]) [0, 1, 2, 3, 6, 7, 8, 9, 10, 11, 12, 13, 14] rfl rfl (M1 := [(wk, 140, 1502, ca 1, gk_5), (wi, 141, 1502, ca 1, gi_5), (wz, 142, 1502, ca 1, gz_5), (jkf, 144, 1502, ca 1, ga_5), (jks, 145, 1502, ca 1, gs_5)]) [0, 1, 2, 3, 4] rfl rfl (I1 := []) [] rfl rfl).more hb_516
    have hNn_51 : (jNk [0, 1, 3, 4, 5, 6, 7, 8, 9, 11, 12, 13, 14, 15, 16]) G0 G_51 := (jNk.rf).tr hN_51
    have hg_53 := hb_512 _ _ hg_r0
    have hg_54 := hb_512 _ _ hg_body_4
    have hg_55 := hb_512 _ _ hg_bo
    have hg_56 := hb_512 _ _ hg_ou
    have hg_57 := hb_512 _ _ hg_js
    have hg_58 := hb_512 _ _ hg_wk
    have hg_59 := hb_512 _ _ hg_wi
    have hg_60 := hb_512 _ _ hg_wz
    have hg_61 := hb_512 _ _ hg_jkf
    have hg_62 := hb_512 _ _ hg_jks
    have hg_63 := hb_512 _ _ hg_fm
    have hh_64 := hh_51.addIs hbE_51
    have hh_65 := hh_64.more (P1 := [(bo, 2, 1, .int pc), (bo, 2, 0, .ref pa)]) (jP.cons hg_55 (hbO_51 _ _ _ _ (by simp) hg_bo (hh_50.at 4 rfl)) (jP.cons hg_55 (hbO_51 _ _ _ _ (by simp) hg_bo (hh_50.at 5 rfl)) jP.nil))
    have hg_66 := hb_512 _ _ hg_pa
    have hd_67 := jOl.trL (hh_50.iv 0 rfl) hh_50.2.2.2.2.1 hbO_51 (by simp)
    have hh_68 := hh_65.addI (jOl.ie (dC := dC) (dI := dI) (G0 := G0) (k := 2) (rs := [bo, ou]) (H0 := s.heap) (F := [(2, 0), (2, 1)]) (C := RX0) (T := TX0) (N := 2) rfl (by decide) hh_65.2.2.2.2.1 (hd_67))
    clear hh_65
    try simp only at hr_52
    have hh_69 := hh_68.wk (zc1 := (n_pa - n_pa) / 16 + 11) (zs1 := 2 * (n_pa - n_pa) + 267) (by omega) (by omega)
    clear hh_68
    try clear hsz_51 htt_51 hrc_51 hrs_51
    try clear hb_514 hb_515
    refine lv_astore_n (lv' := [(3, .ref H_48.size), (2, .int r_49), (1, .int r_6), (0, .ref r0)]) hx hb dX11_understood_54 rfl hl (by decide) rfl (fun ls hl => ?_)
    refine lv_iload_n hx hb dX11_understood_55 rfl (lv_at hl 2 rfl) ?_
    refine lv_if_ne (tgt := 69) hx hb dX11_understood_56 (by decide) (fun c_70 => ?_) (fun c_70 => ?_)
    · skip
      have c_70' : r_6.toInt ≠ 0 := jb_ne (rfl) ((by decide)) c_70
      first | (have hr_6p_3q := hr_6p_3.resolve_left (by omega); clear hr_6p_3) | (have hr_6p_3q := hr_6p_3.resolve_right (by omega); clear hr_6p_3) | skip
      first | (have hr_49_2q := hr_49_2.resolve_left (by omega); clear hr_49_2) | (have hr_49_2q := hr_49_2.resolve_right (by omega); clear hr_49_2) | skip
      refine lv_aload_n hx hb dX11_understood_69 rfl (lv_at hl 3 rfl) ?_
      refine j7_read hx hb hown hK (C := RX11) (T := TX11) (N := 19) rfl hly_13_2 hlk_28 (hh_69.at 7 rfl) dX11_understood_70 ?_
      refine lv_iconst (v := 0) hx hb dX11_understood_73 (by decide) ?_
      refine j_ldcSw hx hb hown rstr271 dX11_understood_74 ?_
      have hsz_71 := hh_69.2.2.2.2.2.1
      have htt_71 := hh_69.2.2.2.2.2.2.1
      refine W.room (fun hrc_71 hrs_71 => ?_)
      refine va_calli (A0 := jA base) (H0 := s.heap) (va_runV (As := [.int 0, .ref str271]) (rest := []) ⟨hx, hb, hml, hown, hts⟩ (uX4_memberQ l dC dI ca base B hB hAp hB6 hB140 hB141 hB142 hB143 hB144 hB145 hB146 G_51 H_51 js 0 str271 6 qv_5 wk wi wz jks gk_5 gi_5 gz_5 gs_5) (cwV 2 hts (jgV (jWr_23 _ (List.mem_of_getElem? (i := 10) rfl)) (jWr_23 _ (List.mem_of_getElem? (i := 11) rfl)) (jWr_23 _ (List.mem_of_getElem? (i := 12) rfl)) (jWr_1 _ (List.mem_of_getElem? (i := 22) rfl)) (jWr_23 _ (List.mem_of_getElem? (i := 13) rfl))) rfl rfl rfl (by decide +kernel) ⟨by rw [← hR]; exact Nat.le_of_ble_eq_true rfl, by rw [← hR]; exact Nat.le_of_ble_eq_true rfl⟩) ⟨fun a U g mk q => by obtain ⟨q0, q1, q2, qK, q10, q11, q12, q13, q14, q15, q16, q17, q18⟩ := q; exact ⟨q0, q1, q2, jG.calling g mk a qK, (q10.moved (Vm.Alike.refl U.vm)), q11, q12, q13, q14, q15, q16, q17, q18⟩, hh_69.recv (C := RX4) (T := TX4) (N := 12) hB6 rfl (by decide) hg_57 hK, fun U hU hW => ⟨rfl, hU, hh_69.2.1, hG.step hW hU hh_69.1, (hstr271.moved hW.alike).kept hh_69.1.2.1, hg_57, hg_58, hg_59, hg_60, hg_62, (hh_69.2.2.1.sub (L1 := [(js, 6, 7, .int qv_5), (js, 6, 0, .ref wk), (js, 6, 1, .ref wi), (js, 6, 2, .ref wz), (js, 6, 5, .ref jks)]) [2, 8, 9, 10, 12] rfl), (hh_69.2.2.2.2.2.2.2.1.sub (L1 := [(wk, 140, 1502, ca 1, gk_5), (wi, 141, 1502, ca 1, gi_5), (wz, 142, 1502, ca 1, gz_5), (jks, 145, 1502, ca 1, gs_5)]) [0, 1, 2, 4] rfl), ⟨(by first | omega | rfl | assumption | fail), (by first | omega | rfl | assumption | fail), (by first | omega | rfl | assumption | fail)⟩⟩⟩ rfl rfl hl.1 rfl (lv_room (Nat.le_of_ble_eq_true rfl)) dX11_understood_77 ⟨by rw [hRc]; show _ + 0 ≤ _; omega, by rw [hRs]; show _ + 0 ≤ _; omega⟩) hh_69.1 (fun q _ h => h) (fun q h => h) (fun r_72 u_71 t_71 H_71 locs_71 ht_71 hvm_71 hr_72 hb_71 hz_71 hk_71 hS_71 => ?_)
      rw [ht_71] at hb_71
      obtain ⟨hb_71, hbF_71⟩ := hb_71
      obtain ⟨hb_711, hb_712, hb_713, hb_714, hb_715⟩ := hb_71
      have hh_71 : jSt (dC, dI) B base G0 G_51 EX11_understood s.heap ((n_pa - n_pa) / 16 + 11) (2 * (n_pa - n_pa) + 267) [(bo, 2, 1, .int pc), (bo, 2, 0, .ref pa), (js, 6, 7, .int qv_5), (js, 6, 8, .int qu_5), (fm, 4, 0, .ref body_4), (r0, 13, 4, .ref bo), (r0, 13, 3, .ref ou), (r0, 13, 2, .ref js), (js, 6, 0, .ref wk), (js, 6, 1, .ref wi), (js, 6, 2, .ref wz), (js, 6, 4, .ref jkf), (js, 6, 5, .ref jks), (r0, 13, 1, .ref fm), (fm, 4, 1, .int fl)] [(wk, 140, 1502, ca 1, gk_5), (wi, 141, 1502, ca 1, gi_5), (wz, 142, 1502, ca 1, gz_5), (jkf, 144, 1502, ca 1, ga_5), (jks, 145, 1502, ca 1, gs_5)] [([(2, 0), (2, 1)], jOl (dC, dI) G0 2 [bo, ou] s.heap), (jFy, jYb dC dI G_51)] H_71 locs_71 := ((hh_69.call hb_711 hb_712 hb_713 hb_714 hS_71 rfl (L1 := [(bo, 2, 1, .int pc), (bo, 2, 0, .ref pa), (js, 6, 7, .int qv_5), (js, 6, 8, .int qu_5), (fm, 4, 0, .ref body_4), (r0, 13, 4, .ref bo), (r0, 13, 3, .ref ou), (r0, 13, 2, .ref js), (js, 6, 0, .ref wk), (js, 6, 1, .ref wi), (js, 6, 2, .ref wz), (js, 6, 4, .ref jkf), (js, 6, 5, .ref jks), (r0, 13, 1, .ref fm), (fm, 4, 1, .int fl)]) [0, 1, 2, 3, 4, 5, 6, 7, 8, 9, 10, 11, 12, 13, 14] rfl rfl (M1 := [(wk, 140, 1502, ca 1, gk_5), (wi, 141, 1502, ca 1, gi_5), (wz, 142, 1502, ca 1, gz_5), (jkf, 144, 1502, ca 1, ga_5), (jks, 145, 1502, ca 1, gs_5)]) [0, 1, 2, 3, 4] rfl rfl (I1 := [([(2, 0), (2, 1)], jOl (dC, dI) G0 2 [bo, ou] s.heap), (jFy, jYb dC dI G_51)]) [0, 1] rfl rfl).more hb_715)
      clear hh_69 ht_71 hvm_71 hz_71 hk_71 hS_71 hb_711 hb_712 hb_713 hb_714 hb_715
      obtain ⟨hr_72_0, hr_72_1, hr_72_2⟩ := hr_72
      refine lv_istore (lv' := [(4, .int r_72), (3, .ref H_48.size), (2, .int r_49), (1, .int r_6), (0, .ref r0)]) hx hb dX11_understood_80 hl (by decide) rfl (fun ls hl => ?_)
      refine lv_aload_n hx hb dX11_understood_82 rfl (lv_at hl 4 rfl) ?_
      refine j7_read hx hb hown hK (C := RX11) (T := TX11) (N := 19) rfl hly_13_2 hlk_28 (hh_71.at 7 rfl) dX11_understood_83 ?_
      refine lv_aload_n hx hb dX11_understood_86 rfl (lv_at hl 4 rfl) ?_
      refine j7_read hx hb hown hK (C := RX11) (T := TX11) (N := 19) rfl hly_13_2 hlk_28 (hh_71.at 7 rfl) dX11_understood_87 ?_
      refine lv_iconst (v := 0) hx hb dX11_understood_90 (by decide) ?_
      refine j_ldcSw hx hb hown rstr273 dX11_understood_91 ?_
      have hsz_73 := hh_71.2.2.2.2.2.1
      have htt_73 := hh_71.2.2.2.2.2.2.1
      refine W.room (fun hrc_73 hrs_73 => ?_)
      refine va_calli (A0 := jA base) (H0 := s.heap) (va_runV (As := [.int 0, .ref str273]) (rest := [.ref js]) ⟨hx, hb, hml, hown, hts⟩ (uX4_memberQ l dC dI ca base B hB hAp hB6 hB140 hB141 hB142 hB143 hB144 hB145 hB146 G_51 H_71 js 0 str273 7 qv_5 wk wi wz jks gk_5 gi_5 gz_5 gs_5) (cwV 2 hts (jgV (jWr_23 _ (List.mem_of_getElem? (i := 10) rfl)) (jWr_23 _ (List.mem_of_getElem? (i := 11) rfl)) (jWr_23 _ (List.mem_of_getElem? (i := 12) rfl)) (jWr_1 _ (List.mem_of_getElem? (i := 22) rfl)) (jWr_23 _ (List.mem_of_getElem? (i := 13) rfl))) rfl rfl rfl (by decide +kernel) ⟨by rw [← hR]; exact Nat.le_of_ble_eq_true rfl, by rw [← hR]; exact Nat.le_of_ble_eq_true rfl⟩) ⟨fun a U g mk q => by obtain ⟨q0, q1, q2, qK, q10, q11, q12, q13, q14, q15, q16, q17, q18⟩ := q; exact ⟨q0, q1, q2, jG.calling g mk a qK, (q10.moved (Vm.Alike.refl U.vm)), q11, q12, q13, q14, q15, q16, q17, q18⟩, hh_71.recv (C := RX4) (T := TX4) (N := 12) hB6 rfl (by decide) hg_57 hK, fun U hU hW => ⟨rfl, hU, hh_71.2.1, hG.step hW hU hh_71.1, (hstr273.moved hW.alike).kept hh_71.1.2.1, hg_57, hg_58, hg_59, hg_60, hg_62, (hh_71.2.2.1.sub (L1 := [(js, 6, 7, .int qv_5), (js, 6, 0, .ref wk), (js, 6, 1, .ref wi), (js, 6, 2, .ref wz), (js, 6, 5, .ref jks)]) [2, 8, 9, 10, 12] rfl), (hh_71.2.2.2.2.2.2.2.1.sub (L1 := [(wk, 140, 1502, ca 1, gk_5), (wi, 141, 1502, ca 1, gi_5), (wz, 142, 1502, ca 1, gz_5), (jks, 145, 1502, ca 1, gs_5)]) [0, 1, 2, 4] rfl), ⟨(by first | omega | rfl | assumption | fail), (by first | omega | rfl | assumption | fail), (by first | omega | rfl | assumption | fail)⟩⟩⟩ rfl rfl hl.1 rfl (lv_room (Nat.le_of_ble_eq_true rfl)) dX11_understood_94 ⟨by rw [hRc]; show _ + 0 ≤ _; omega, by rw [hRs]; show _ + 0 ≤ _; omega⟩) hh_71.1 (fun q _ h => h) (fun q h => h) (fun r_74 u_73 t_73 H_73 locs_73 ht_73 hvm_73 hr_74 hb_73 hz_73 hk_73 hS_73 => ?_)
      rw [ht_73] at hb_73
      obtain ⟨hb_73, hbF_73⟩ := hb_73
      obtain ⟨hb_731, hb_732, hb_733, hb_734, hb_735⟩ := hb_73
      have hh_73 : jSt (dC, dI) B base G0 G_51 EX11_understood s.heap ((n_pa - n_pa) / 16 + 11) (2 * (n_pa - n_pa) + 267) [(bo, 2, 1, .int pc), (bo, 2, 0, .ref pa), (js, 6, 7, .int qv_5), (js, 6, 8, .int qu_5), (fm, 4, 0, .ref body_4), (r0, 13, 4, .ref bo), (r0, 13, 3, .ref ou), (r0, 13, 2, .ref js), (js, 6, 0, .ref wk), (js, 6, 1, .ref wi), (js, 6, 2, .ref wz), (js, 6, 4, .ref jkf), (js, 6, 5, .ref jks), (r0, 13, 1, .ref fm), (fm, 4, 1, .int fl)] [(wk, 140, 1502, ca 1, gk_5), (wi, 141, 1502, ca 1, gi_5), (wz, 142, 1502, ca 1, gz_5), (jkf, 144, 1502, ca 1, ga_5), (jks, 145, 1502, ca 1, gs_5)] [([(2, 0), (2, 1)], jOl (dC, dI) G0 2 [bo, ou] s.heap), (jFy, jYb dC dI G_51)] H_73 locs_73 := ((hh_71.call hb_731 hb_732 hb_733 hb_734 hS_73 rfl (L1 := [(bo, 2, 1, .int pc), (bo, 2, 0, .ref pa), (js, 6, 7, .int qv_5), (js, 6, 8, .int qu_5), (fm, 4, 0, .ref body_4), (r0, 13, 4, .ref bo), (r0, 13, 3, .ref ou), (r0, 13, 2, .ref js), (js, 6, 0, .ref wk), (js, 6, 1, .ref wi), (js, 6, 2, .ref wz), (js, 6, 4, .ref jkf), (js, 6, 5, .ref jks), (r0, 13, 1, .ref fm), (fm, 4, 1, .int fl)]) [0, 1, 2, 3, 4, 5, 6, 7, 8, 9, 10, 11, 12, 13, 14] rfl rfl (M1 := [(wk, 140, 1502, ca 1, gk_5), (wi, 141, 1502, ca 1, gi_5), (wz, 142, 1502, ca 1, gz_5), (jkf, 144, 1502, ca 1, ga_5), (jks, 145, 1502, ca 1, gs_5)]) [0, 1, 2, 3, 4] rfl rfl (I1 := [([(2, 0), (2, 1)], jOl (dC, dI) G0 2 [bo, ou] s.heap), (jFy, jYb dC dI G_51)]) [0, 1] rfl rfl).more hb_735)
      clear hh_71 ht_73 hvm_73 hz_73 hk_73 hS_73 hb_731 hb_732 hb_733 hb_734 hb_735
      obtain ⟨hr_74_0, hr_74_1, hr_74_2⟩ := hr_74
      refine j_ldcSw hx hb hown rstr275 dX11_understood_97 ?_
      have hsz_75 := hh_73.2.2.2.2.2.1
      have htt_75 := hh_73.2.2.2.2.2.2.1
      refine W.room (fun hrc_75 hrs_75 => ?_)
      refine va_calli (A0 := jA base) (H0 := s.heap) (va_runV (As := [.int r_74, .ref str275]) (rest := []) ⟨hx, hb, hml, hown, hts⟩ (uX4_isTextQ l dC dI ca base B hB hAp hB6 hB140 hB141 hB142 hB146 G_51 H_73 js r_74 str275 3 qv_5 wk wi wz gk_5 gi_5 gz_5) (cwV 2 hts (jgV (jWr_27 _ (List.mem_of_getElem? (i := 1) rfl)) (jWr_27 _ (List.mem_of_getElem? (i := 2) rfl)) (jWr_27 _ (List.mem_of_getElem? (i := 3) rfl)) (jWr_1 _ (List.mem_of_getElem? (i := 22) rfl)) (jWr_27 _ (List.mem_of_getElem? (i := 4) rfl))) rfl rfl rfl (by decide +kernel) ⟨by rw [← hR]; exact Nat.le_of_ble_eq_true rfl, by rw [← hR]; exact Nat.le_of_ble_eq_true rfl⟩) ⟨fun a U g mk q => by obtain ⟨q0, q1, q2, qK, q10, q11, q12, q13, q14, q15, q16, q17⟩ := q; exact ⟨q0, q1, q2, jG.calling g mk a qK, (q10.moved (Vm.Alike.refl U.vm)), q11, q12, q13, q14, q15, q16, q17⟩, hh_73.recv (C := RX4) (T := TX4) (N := 12) hB6 rfl (by decide) hg_57 hK, fun U hU hW => ⟨rfl, hU, hh_73.2.1, hG.step hW hU hh_73.1, (hstr275.moved hW.alike).kept hh_73.1.2.1, hg_57, hg_58, hg_59, hg_60, (hh_73.2.2.1.sub (L1 := [(js, 6, 7, .int qv_5), (js, 6, 0, .ref wk), (js, 6, 1, .ref wi), (js, 6, 2, .ref wz)]) [2, 8, 9, 10] rfl), (hh_73.2.2.2.2.2.2.2.1.sub (L1 := [(wk, 140, 1502, ca 1, gk_5), (wi, 141, 1502, ca 1, gi_5), (wz, 142, 1502, ca 1, gz_5)]) [0, 1, 2] rfl), ⟨(by first | omega | rfl | assumption | exact hr_6p_2.p hr_6p_1), (by first | omega | rfl | assumption | exact hr_6p_2.p hr_6p_1), (by first | omega | rfl | assumption | exact hr_6p_2.p hr_6p_1), (by first | assumption | exact hr_6p_2.p hr_6p_1 | omega)⟩⟩⟩ rfl rfl hl.1 rfl (lv_room (Nat.le_of_ble_eq_true rfl)) dX11_understood_100 ⟨by rw [hRc]; show _ + 0 ≤ _; omega, by rw [hRs]; show _ + 0 ≤ _; omega⟩) hh_73.1 (fun q _ h => h) (fun q h => h) (fun r_76 u_75 t_75 H_75 locs_75 ht_75 hvm_75 hr_76 hb_75 hz_75 hk_75 hS_75 => ?_)
      rw [ht_75] at hb_75
      obtain ⟨hb_75, hbF_75⟩ := hb_75
      obtain ⟨hb_751, hb_752, hb_753, hb_754, hb_755⟩ := hb_75
      have hh_75 : jSt (dC, dI) B base G0 G_51 EX11_understood s.heap ((n_pa - n_pa) / 16 + 11) (2 * (n_pa - n_pa) + 267) [(bo, 2, 1, .int pc), (bo, 2, 0, .ref pa), (js, 6, 7, .int qv_5), (js, 6, 8, .int qu_5), (fm, 4, 0, .ref body_4), (r0, 13, 4, .ref bo), (r0, 13, 3, .ref ou), (r0, 13, 2, .ref js), (js, 6, 0, .ref wk), (js, 6, 1, .ref wi), (js, 6, 2, .ref wz), (js, 6, 4, .ref jkf), (js, 6, 5, .ref jks), (r0, 13, 1, .ref fm), (fm, 4, 1, .int fl)] [(wk, 140, 1502, ca 1, gk_5), (wi, 141, 1502, ca 1, gi_5), (wz, 142, 1502, ca 1, gz_5), (jkf, 144, 1502, ca 1, ga_5), (jks, 145, 1502, ca 1, gs_5)] [([(2, 0), (2, 1)], jOl (dC, dI) G0 2 [bo, ou] s.heap), (jFy, jYb dC dI G_51)] H_75 locs_75 := ((hh_73.call hb_751 hb_752 hb_753 hb_754 hS_75 rfl (L1 := [(bo, 2, 1, .int pc), (bo, 2, 0, .ref pa), (js, 6, 7, .int qv_5), (js, 6, 8, .int qu_5), (fm, 4, 0, .ref body_4), (r0, 13, 4, .ref bo), (r0, 13, 3, .ref ou), (r0, 13, 2, .ref js), (js, 6, 0, .ref wk), (js, 6, 1, .ref wi), (js, 6, 2, .ref wz), (js, 6, 4, .ref jkf), (js, 6, 5, .ref jks), (r0, 13, 1, .ref fm), (fm, 4, 1, .int fl)]) [0, 1, 2, 3, 4, 5, 6, 7, 8, 9, 10, 11, 12, 13, 14] rfl rfl (M1 := [(wk, 140, 1502, ca 1, gk_5), (wi, 141, 1502, ca 1, gi_5), (wz, 142, 1502, ca 1, gz_5), (jkf, 144, 1502, ca 1, ga_5), (jks, 145, 1502, ca 1, gs_5)]) [0, 1, 2, 3, 4] rfl rfl (I1 := [([(2, 0), (2, 1)], jOl (dC, dI) G0 2 [bo, ou] s.heap), (jFy, jYb dC dI G_51)]) [0, 1] rfl rfl).more hb_755)
      clear hh_73 ht_75 hvm_75 hz_75 hk_75 hS_75 hb_751 hb_752 hb_753 hb_754 hb_755
      obtain ⟨hr_76b, hr_76p⟩ := hr_76
      have hr_76' := jb_01 hr_76b
      refine lv_if_eq (tgt := 161) hx hb dX11_understood_103 (by decide) (fun c_77 => ?_) (fun c_77 => ?_)
      · skip
        have c_77' : r_76.toInt = 0 := jb_eq (rfl) ((by decide)) c_77
        first | (have hr_49_2q := hr_49_2.resolve_left (by omega); clear hr_49_2) | (have hr_49_2q := hr_49_2.resolve_right (by omega); clear hr_49_2) | skip
        first | (have hr_72_2q := hr_72_2.resolve_left (by omega); clear hr_72_2) | (have hr_72_2q := hr_72_2.resolve_right (by omega); clear hr_72_2) | skip
        first | (have hr_74_2q := hr_74_2.resolve_left (by omega); clear hr_74_2) | (have hr_74_2q := hr_74_2.resolve_right (by omega); clear hr_74_2) | try clear hr_74_2
        first | (have hr_76pq := hr_76p.resolve_left (by omega); clear hr_76p) | (have hr_76pq := hr_76p.resolve_right (by omega); clear hr_76p) | try clear hr_76p
        refine lv_iconst (v := 0) hx hb dX11_understood_161 (by decide) ?_
        refine lv_istore (lv' := [(5, .int 0), (4, .int r_72), (3, .ref H_48.size), (2, .int r_49), (1, .int r_6), (0, .ref r0)]) hx hb dX11_understood_162 hl (by decide) rfl (fun ls hl => ?_)
        refine lv_iload hx hb dX11_understood_164 (lv_at hl 0 rfl) ?_
        refine lv_if_ne (tgt := 179) hx hb dX11_understood_166 (by decide) (fun c_78 => ?_) (fun c_78 => ?_)
        · skip
          exact absurd c_78 (by decide)
        · skip
          first | (have hr_49_2q := hr_49_2.resolve_left (by omega); clear hr_49_2) | (have hr_49_2q := hr_49_2.resolve_right (by omega); clear hr_49_2) | skip
          first | (have hr_72_2q := hr_72_2.resolve_left (by omega); clear hr_72_2) | (have hr_72_2q := hr_72_2.resolve_right (by omega); clear hr_72_2) | skip
          refine lv_aload_n hx hb dX11_understood_169 rfl (lv_at hl 5 rfl) ?_
          refine lv_aload_n hx hb dX11_understood_170 rfl (lv_at hl 2 rfl) ?_
          refine lv_sipush (v := (-32600)) hx hb dX11_understood_171 (by decide) ?_
          have hsz_79 := hh_75.2.2.2.2.2.1
          have htt_79 := hh_75.2.2.2.2.2.2.1
          refine W.room (fun hrc_79 hrs_79 => ?_)
          refine va_callv (A0 := jA base) (H0 := s.heap) (va_runV (As := [.ref H_48.size, .int (-32600)]) (rest := []) ⟨hx, hb, hml, hown, hts⟩ (uX11_refuse l dC dI ca base B hB hAp hB2 hB4 hB10 hB13 hB196 G_51 H_75 r0 H_48.size (-32600) bo pc pa n_pa ou LC LS) (cwV 2 hts (jgV (jWr_26 _ (List.mem_of_getElem? (i := 3) rfl)) (jWr_26 _ (List.mem_of_getElem? (i := 4) rfl)) (jWr_26 _ (List.mem_of_getElem? (i := 5) rfl)) (jWr_1 _ (List.mem_of_getElem? (i := 2) rfl)) (jWr_26 _ (List.mem_of_getElem? (i := 6) rfl))) rfl rfl rfl (by decide +kernel) ⟨by rw [← hR]; exact Nat.le_of_ble_eq_true rfl, by rw [← hR]; exact Nat.le_of_ble_eq_true rfl⟩) ⟨fun a U g mk q => by obtain ⟨q0, q1, q2, qK, q10, q11, q12, q13, q14, q15, q16, q17⟩ := q; exact ⟨q0, q1, q2, jG.calling g mk a qK, q10, q11, q12, q13, q14, q15, q16, q17⟩, hh_75.recv (C := RX11) (T := TX11) (N := 19) hB13 rfl (by decide) hg_53 hK, fun U hU hW => ⟨rfl, hU, hh_75.2.1, hG.step hW hU hh_75.1, hgc_51, hg_53, hg_55, hg_66, hg_56, (hh_75.2.2.1.sub (L1 := [(r0, 13, 4, .ref bo), (bo, 2, 1, .int pc), (bo, 2, 0, .ref pa), (r0, 13, 3, .ref ou)]) [5, 0, 1, 6] rfl), (hh_75.2.2.2.2.2.2.2.2.sub (L1 := [(jFy, jYb dC dI G_51)]) [1] rfl), (by omega), (by omega), ⟨(by first | omega | rfl | assumption | fail), (by first | omega | rfl | assumption | fail), (by first | omega | rfl | assumption | fail), (by first | omega | rfl | assumption | fail), (by first | assumption | fail | omega)⟩⟩⟩ rfl rfl hl.1 rfl (lv_room (Nat.le_of_ble_eq_true rfl)) dX11_understood_174 ⟨by rw [hRc]; omega, by rw [hRs]; omega⟩) hh_75.1 (fun q _ h => h) (fun q h => h) (fun u_79 t_79 H_79 locs_79 ht_79 hvm_79 hr_80 hb_79 hz_79 hk_79 hS_79 => ?_)
          obtain ⟨qc_79, qa_79, m_qa_79, G_79⟩ := u_79
          rw [ht_79] at hb_79
          simp only at hb_79
          obtain ⟨⟨hb_791, hb_792, hb_793, hb_794, hb_795, hb_796⟩, hgq_79_0, hN_79, hbO_79, hbE_79⟩ := hb_79
          have hY_79 := hN_79
          have hN_79 : (jNk [0, 1, 3, 4, 5, 6, 7, 8, 9, 11, 12, 13, 14, 15, 16]) G_51 G_79 := hN_79.sub (by decide)
          have hh_79 : jSt (dC, dI) B base G0 G_79 EX11_understood s.heap (((n_pa - n_pa) / 16 + 11) + ((m_qa_79 - n_pa) / 16)) ((2 * (n_pa - n_pa) + 267) + (2 * (m_qa_79 - n_pa))) [(bo, 2, 1, .int qc_79), (bo, 2, 0, .ref qa_79), (js, 6, 7, .int qv_5), (js, 6, 8, .int qu_5), (fm, 4, 0, .ref body_4), (r0, 13, 4, .ref bo), (r0, 13, 3, .ref ou), (r0, 13, 2, .ref js), (js, 6, 0, .ref wk), (js, 6, 1, .ref wi), (js, 6, 2, .ref wz), (js, 6, 4, .ref jkf), (js, 6, 5, .ref jks), (r0, 13, 1, .ref fm), (fm, 4, 1, .int fl)] [(wk, 140, 1502, ca 1, gk_5), (wi, 141, 1502, ca 1, gi_5), (wz, 142, 1502, ca 1, gz_5), (jkf, 144, 1502, ca 1, ga_5), (jks, 145, 1502, ca 1, gs_5)] [] H_79 locs_79 := (hh_75.callG hb_791 hb_792 hb_793 hb_794 hb_795 hS_79 rfl (L1 := [(js, 6, 7, .int qv_5), (js, 6, 8, .int qu_5), (fm, 4, 0, .ref body_4), (r0, 13, 4, .ref bo), (r0, 13, 3, .ref ou), (r0, 13, 2, .ref js), (js, 6, 0, .ref wk), (js, 6, 1, .ref wi), (js, 6, 2, .ref wz), (js, 6, 4, .ref jkf), (js, 6, 5, .ref jks), (r0, 13, 1, .ref fm), (fm, 4, 1, .int fl)]) [2, 3, 4, 5, 6, 7, 8, 9, 10, 11, 12, 13, 14] rfl rfl (M1 := [(wk, 140, 1502, ca 1, gk_5), (wi, 141, 1502, ca 1, gi_5), (wz, 142, 1502, ca 1, gz_5), (jkf, 144, 1502, ca 1, ga_5), (jks, 145, 1502, ca 1, gs_5)]) [0, 1, 2, 3, 4] rfl rfl (I1 := []) [] rfl rfl).more hb_796
          have hNn_79 : (jNk [0, 1, 3, 4, 5, 6, 7, 8, 9, 11, 12, 13, 14, 15, 16]) G0 G_79 := (hNn_51).tr hN_79
          have hg_81 := hb_792 _ _ hgc_51
          have hg_82 := hb_792 _ _ hg_53
          have hg_83 := hb_792 _ _ hg_54
          have hg_84 := hb_792 _ _ hg_55
          have hg_85 := hb_792 _ _ hg_56
          have hg_86 := hb_792 _ _ hg_57
          have hg_87 := hb_792 _ _ hg_58
          have hg_88 := hb_792 _ _ hg_59
          have hg_89 := hb_792 _ _ hg_60
          have hg_90 := hb_792 _ _ hg_61
          have hg_91 := hb_792 _ _ hg_62
          have hg_92 := hb_792 _ _ hg_63
          have hh_93 := hh_79.addIs hbE_79
          have hd_94 := jOl.trL (hh_75.iv 0 rfl) hh_75.2.2.2.2.1 hbO_79 (by simp)
          have hh_95 := hh_93.addI (jOl.ie (dC := dC) (dI := dI) (G0 := G0) (k := 2) (rs := [bo, ou]) (H0 := s.heap) (F := [(2, 0), (2, 1)]) (C := RX0) (T := TX0) (N := 2) rfl (by decide) hh_93.2.2.2.2.1 (hd_94))
          clear hh_93
          try simp only at hr_80
          obtain ⟨hr_80_0, hr_80_1, hr_80_2, hr_80_3, hr_80_4⟩ := hr_80
          have hh_96 := hh_95.wk (zc1 := (m_qa_79 - n_pa) / 16 + 11) (zs1 := 2 * (m_qa_79 - n_pa) + 267) (by omega) (by omega)
          clear hh_95
          try clear hsz_79 htt_79 hrc_79 hrs_79
          try clear hb_794 hb_795
          refine lv_null hx hb dX11_understood_177 ?_
          have hsz_97 := hh_96.2.2.2.2.2.1
          have htt_97 := hh_96.2.2.2.2.2.2.1
          refine W.room (fun hrc_97 hrs_97 => ?_)
          refine W.widen (k := LC - s.heap.size) (n := LS - jTot s.heap) (by omega) (by omega) ?_
          rw [hQ]
          exact W.aret (v := .null) hx hb hr (Or.inl ⟨_, rfl⟩) (Or.inl rfl) (fun t ht hW => ⟨⟨.null, (qc_79, qv_5, qu_5, qa_79, m_qa_79, gk_5, gi_5, gz_5, ga_5, gs_5, 0, G_79), rfl, ⟨Or.inl rfl, by skip; (try dsimp only); refine ⟨by omega, by omega, by omega, by omega, by assumption, by omega, by omega, by omega, hr_6p_2, ?_⟩; exact Or.inl rfl⟩, ⟨hh_96.ra (by first | omega | (simp only; omega)) (by first | omega | (simp only; omega)) (M1 := [(bo, 2, 1, .int qc_79), (js, 6, 7, .int qv_5), (js, 6, 8, .int qu_5), (bo, 2, 0, .ref qa_79)]) [0, 2, 3, 1] rfl ht, hgq_79_0, hNn_79, by rw [ht]; exact hh_96.iv 0 rfl, by rw [ht]; exact hh_96.2.2.2.2.2.2.2.2.sub (L1 := [(jFy, jYb dC dI G_79)]) [1] rfl, by rw [ht]; exact hh_96.2.2.2.2.2.2.2.1.sub [0, 1, 2, 3, 4] rfl⟩⟩, by rw [ht]; try exact hh_96.1.1, fun q h9 hq => by rw [ht]; try exact hh_96.1.2.1 q h9 hq⟩) hh_96.1.2.2 dX11_understood_178
      · skip
        have c_77' : r_76.toInt ≠ 0 := jb_eq_n (rfl) ((by decide)) c_77
        first | (have hr_49_2q := hr_49_2.resolve_left (by omega); clear hr_49_2) | (have hr_49_2q := hr_49_2.resolve_right (by omega); clear hr_49_2) | skip
        first | (have hr_72_2q := hr_72_2.resolve_left (by omega); clear hr_72_2) | (have hr_72_2q := hr_72_2.resolve_right (by omega); clear hr_72_2) | skip
        first | (have hr_74_2q := hr_74_2.resolve_left (by omega); clear hr_74_2) | (have hr_74_2q := hr_74_2.resolve_right (by omega); clear hr_74_2) | try clear hr_74_2
        first | (have hr_76pq := hr_76p.resolve_left (by omega); clear hr_76p) | (have hr_76pq := hr_76p.resolve_right (by omega); clear hr_76p) | try clear hr_76p
        refine lv_aload_n hx hb dX11_understood_106 rfl (lv_at hl 4 rfl) ?_
        refine j7_read hx hb hown hK (C := RX11) (T := TX11) (N := 19) rfl hly_13_2 hlk_28 (hh_75.at 7 rfl) dX11_understood_107 ?_
        refine lv_aload_n hx hb dX11_understood_110 rfl (lv_at hl 4 rfl) ?_
        refine j7_read hx hb hown hK (C := RX11) (T := TX11) (N := 19) rfl hly_13_2 hlk_28 (hh_75.at 7 rfl) dX11_understood_111 ?_
        refine lv_iconst (v := 0) hx hb dX11_understood_114 (by decide) ?_
        refine j_ldcSw hx hb hown rstr281 dX11_understood_115 ?_
        have hsz_98 := hh_75.2.2.2.2.2.1
        have htt_98 := hh_75.2.2.2.2.2.2.1
        refine W.room (fun hrc_98 hrs_98 => ?_)
        refine va_calli (A0 := jA base) (H0 := s.heap) (va_runV (As := [.int 0, .ref str281]) (rest := [.ref js]) ⟨hx, hb, hml, hown, hts⟩ (uX4_memberQ l dC dI ca base B hB hAp hB6 hB140 hB141 hB142 hB143 hB144 hB145 hB146 G_51 H_75 js 0 str281 6 qv_5 wk wi wz jks gk_5 gi_5 gz_5 gs_5) (cwV 2 hts (jgV (jWr_23 _ (List.mem_of_getElem? (i := 10) rfl)) (jWr_23 _ (List.mem_of_getElem? (i := 11) rfl)) (jWr_23 _ (List.mem_of_getElem? (i := 12) rfl)) (jWr_1 _ (List.mem_of_getElem? (i := 22) rfl)) (jWr_23 _ (List.mem_of_getElem? (i := 13) rfl))) rfl rfl rfl (by decide +kernel) ⟨by rw [← hR]; exact Nat.le_of_ble_eq_true rfl, by rw [← hR]; exact Nat.le_of_ble_eq_true rfl⟩) ⟨fun a U g mk q => by obtain ⟨q0, q1, q2, qK, q10, q11, q12, q13, q14, q15, q16, q17, q18⟩ := q; exact ⟨q0, q1, q2, jG.calling g mk a qK, (q10.moved (Vm.Alike.refl U.vm)), q11, q12, q13, q14, q15, q16, q17, q18⟩, hh_75.recv (C := RX4) (T := TX4) (N := 12) hB6 rfl (by decide) hg_57 hK, fun U hU hW => ⟨rfl, hU, hh_75.2.1, hG.step hW hU hh_75.1, (hstr281.moved hW.alike).kept hh_75.1.2.1, hg_57, hg_58, hg_59, hg_60, hg_62, (hh_75.2.2.1.sub (L1 := [(js, 6, 7, .int qv_5), (js, 6, 0, .ref wk), (js, 6, 1, .ref wi), (js, 6, 2, .ref wz), (js, 6, 5, .ref jks)]) [2, 8, 9, 10, 12] rfl), (hh_75.2.2.2.2.2.2.2.1.sub (L1 := [(wk, 140, 1502, ca 1, gk_5), (wi, 141, 1502, ca 1, gi_5), (wz, 142, 1502, ca 1, gz_5), (jks, 145, 1502, ca 1, gs_5)]) [0, 1, 2, 4] rfl), ⟨(by first | omega | rfl | assumption | fail), (by first | omega | rfl | assumption | fail), (by first | omega | rfl | assumption | fail)⟩⟩⟩ rfl rfl hl.1 rfl (lv_room (Nat.le_of_ble_eq_true rfl)) dX11_understood_118 ⟨by rw [hRc]; show _ + 0 ≤ _; omega, by rw [hRs]; show _ + 0 ≤ _; omega⟩) hh_75.1 (fun q _ h => h) (fun q h => h) (fun r_99 u_98 t_98 H_98 locs_98 ht_98 hvm_98 hr_99 hb_98 hz_98 hk_98 hS_98 => ?_)
        rw [ht_98] at hb_98
        obtain ⟨hb_98, hbF_98⟩ := hb_98
        obtain ⟨hb_981, hb_982, hb_983, hb_984, hb_985⟩ := hb_98
        have hh_98 : jSt (dC, dI) B base G0 G_51 EX11_understood s.heap ((n_pa - n_pa) / 16 + 11) (2 * (n_pa - n_pa) + 267) [(bo, 2, 1, .int pc), (bo, 2, 0, .ref pa), (js, 6, 7, .int qv_5), (js, 6, 8, .int qu_5), (fm, 4, 0, .ref body_4), (r0, 13, 4, .ref bo), (r0, 13, 3, .ref ou), (r0, 13, 2, .ref js), (js, 6, 0, .ref wk), (js, 6, 1, .ref wi), (js, 6, 2, .ref wz), (js, 6, 4, .ref jkf), (js, 6, 5, .ref jks), (r0, 13, 1, .ref fm), (fm, 4, 1, .int fl)] [(wk, 140, 1502, ca 1, gk_5), (wi, 141, 1502, ca 1, gi_5), (wz, 142, 1502, ca 1, gz_5), (jkf, 144, 1502, ca 1, ga_5), (jks, 145, 1502, ca 1, gs_5)] [([(2, 0), (2, 1)], jOl (dC, dI) G0 2 [bo, ou] s.heap), (jFy, jYb dC dI G_51)] H_98 locs_98 := ((hh_75.call hb_981 hb_982 hb_983 hb_984 hS_98 rfl (L1 := [(bo, 2, 1, .int pc), (bo, 2, 0, .ref pa), (js, 6, 7, .int qv_5), (js, 6, 8, .int qu_5), (fm, 4, 0, .ref body_4), (r0, 13, 4, .ref bo), (r0, 13, 3, .ref ou), (r0, 13, 2, .ref js), (js, 6, 0, .ref wk), (js, 6, 1, .ref wi), (js, 6, 2, .ref wz), (js, 6, 4, .ref jkf), (js, 6, 5, .ref jks), (r0, 13, 1, .ref fm), (fm, 4, 1, .int fl)]) [0, 1, 2, 3, 4, 5, 6, 7, 8, 9, 10, 11, 12, 13, 14] rfl rfl (M1 := [(wk, 140, 1502, ca 1, gk_5), (wi, 141, 1502, ca 1, gi_5), (wz, 142, 1502, ca 1, gz_5), (jkf, 144, 1502, ca 1, ga_5), (jks, 145, 1502, ca 1, gs_5)]) [0, 1, 2, 3, 4] rfl rfl (I1 := [([(2, 0), (2, 1)], jOl (dC, dI) G0 2 [bo, ou] s.heap), (jFy, jYb dC dI G_51)]) [0, 1] rfl rfl).more hb_985)
        clear hh_75 ht_98 hvm_98 hz_98 hk_98 hS_98 hb_981 hb_982 hb_983 hb_984 hb_985
        obtain ⟨hr_99_0, hr_99_1, hr_99_2⟩ := hr_99
        have hsz_100 := hh_98.2.2.2.2.2.1
        have htt_100 := hh_98.2.2.2.2.2.2.1
        refine W.room (fun hrc_100 hrs_100 => ?_)
        refine va_calli (A0 := jA base) (H0 := s.heap) (va_runV (As := [.int r_99]) (rest := []) ⟨hx, hb, hml, hown, hts⟩ (uX4_kindOfW l dC dI ca base B hB hAp hB6 hB140 G_51 H_98 js r_99 qv_5 wk wi wz gk_5 gi_5 gz_5) (cwV 1 hts (jgV (jWr_27 _ (List.mem_of_getElem? (i := 5) rfl)) (jWr_23 _ (List.mem_of_getElem? (i := 15) rfl)) (jWr_23 _ (List.mem_of_getElem? (i := 16) rfl)) (jWr_1 _ (List.mem_of_getElem? (i := 22) rfl)) (jWr_23 _ (List.mem_of_getElem? (i := 17) rfl))) rfl rfl rfl (by decide +kernel) ⟨by rw [← hR]; exact Nat.le_of_ble_eq_true rfl, by rw [← hR]; exact Nat.le_of_ble_eq_true rfl⟩) ⟨fun a U g mk q => by obtain ⟨q0, q1, q2, qK, q10, q11, q12, q13, q14, q15, q16⟩ := q; exact ⟨q0, q1, q2, jG.calling g mk a qK, q10, q11, q12, q13, q14, q15, q16⟩, hh_98.recv (C := RX4) (T := TX4) (N := 12) hB6 rfl (by decide) hg_57 hK, fun U hU hW => ⟨rfl, hU, hh_98.2.1, hG.step hW hU hh_98.1, hg_57, hg_58, hg_59, hg_60, (hh_98.2.2.1.sub (L1 := [(js, 6, 7, .int qv_5), (js, 6, 0, .ref wk), (js, 6, 1, .ref wi), (js, 6, 2, .ref wz)]) [2, 8, 9, 10] rfl), (hh_98.2.2.2.2.2.2.2.1.sub (L1 := [(wk, 140, 1502, ca 1, gk_5), (wi, 141, 1502, ca 1, gi_5), (wz, 142, 1502, ca 1, gz_5)]) [0, 1, 2] rfl), ⟨(by first | omega | rfl | assumption | fail), (by first | omega | rfl | assumption | fail)⟩⟩⟩ rfl rfl hl.1 rfl (lv_room (Nat.le_of_ble_eq_true rfl)) dX11_understood_121 ⟨by rw [hRc]; show _ + 0 ≤ _; omega, by rw [hRs]; show _ + 0 ≤ _; omega⟩) hh_98.1 (fun q _ h => h) (fun q h => h) (fun r_101 u_100 t_100 H_100 locs_100 ht_100 hvm_100 hr_101 hb_100 hz_100 hk_100 hS_100 => ?_)
        rw [ht_100] at hb_100
        obtain ⟨hb_100, hbF_100⟩ := hb_100
        obtain ⟨hb_1001, hb_1002, hb_1003, hb_1004, hb_1005⟩ := hb_100
        have hh_100 : jSt (dC, dI) B base G0 G_51 EX11_understood s.heap ((n_pa - n_pa) / 16 + 11) (2 * (n_pa - n_pa) + 267) [(bo, 2, 1, .int pc), (bo, 2, 0, .ref pa), (js, 6, 7, .int qv_5), (js, 6, 8, .int qu_5), (fm, 4, 0, .ref body_4), (r0, 13, 4, .ref bo), (r0, 13, 3, .ref ou), (r0, 13, 2, .ref js), (js, 6, 0, .ref wk), (js, 6, 1, .ref wi), (js, 6, 2, .ref wz), (js, 6, 4, .ref jkf), (js, 6, 5, .ref jks), (r0, 13, 1, .ref fm), (fm, 4, 1, .int fl)] [(wk, 140, 1502, ca 1, gk_5), (wi, 141, 1502, ca 1, gi_5), (wz, 142, 1502, ca 1, gz_5), (jkf, 144, 1502, ca 1, ga_5), (jks, 145, 1502, ca 1, gs_5)] [([(2, 0), (2, 1)], jOl (dC, dI) G0 2 [bo, ou] s.heap), (jFy, jYb dC dI G_51)] H_100 locs_100 := ((hh_98.call hb_1001 hb_1002 hb_1003 hb_1004 hS_100 rfl (L1 := [(bo, 2, 1, .int pc), (bo, 2, 0, .ref pa), (js, 6, 7, .int qv_5), (js, 6, 8, .int qu_5), (fm, 4, 0, .ref body_4), (r0, 13, 4, .ref bo), (r0, 13, 3, .ref ou), (r0, 13, 2, .ref js), (js, 6, 0, .ref wk), (js, 6, 1, .ref wi), (js, 6, 2, .ref wz), (js, 6, 4, .ref jkf), (js, 6, 5, .ref jks), (r0, 13, 1, .ref fm), (fm, 4, 1, .int fl)]) [0, 1, 2, 3, 4, 5, 6, 7, 8, 9, 10, 11, 12, 13, 14] rfl rfl (M1 := [(wk, 140, 1502, ca 1, gk_5), (wi, 141, 1502, ca 1, gi_5), (wz, 142, 1502, ca 1, gz_5), (jkf, 144, 1502, ca 1, ga_5), (jks, 145, 1502, ca 1, gs_5)]) [0, 1, 2, 3, 4] rfl rfl (I1 := [([(2, 0), (2, 1)], jOl (dC, dI) G0 2 [bo, ou] s.heap), (jFy, jYb dC dI G_51)]) [0, 1] rfl rfl).more hb_1005)
        clear hh_98 ht_100 hvm_100 hz_100 hk_100 hS_100 hb_1001 hb_1002 hb_1003 hb_1004 hb_1005
        refine lv_iconst (v := 3) hx hb dX11_understood_124 (by decide) ?_
        refine lv_icmp_ne (tgt := 161) hx hb dX11_understood_125 (by decide) (fun c_102 => ?_) (fun c_102 => ?_)
        · skip
          have c_102' : r_101.toInt ≠ 3 := jb_ne (rfl) ((by decide)) c_102
          try clear hr_99_2
          try clear hr_101
          refine lv_iconst (v := 0) hx hb dX11_understood_161 (by decide) ?_
          refine lv_istore (lv' := [(5, .int 0), (4, .int r_72), (3, .ref H_48.size), (2, .int r_49), (1, .int r_6), (0, .ref r0)]) hx hb dX11_understood_162 hl (by decide) rfl (fun ls hl => ?_)
          refine lv_iload hx hb dX11_understood_164 (lv_at hl 0 rfl) ?_
          refine lv_if_ne (tgt := 179) hx hb dX11_understood_166 (by decide) (fun c_103 => ?_) (fun c_103 => ?_)
          · skip
            exact absurd c_103 (by decide)
          · skip
            first | (have hr_49_2q := hr_49_2.resolve_left (by omega); clear hr_49_2) | (have hr_49_2q := hr_49_2.resolve_right (by omega); clear hr_49_2) | skip
            first | (have hr_72_2q := hr_72_2.resolve_left (by omega); clear hr_72_2) | (have hr_72_2q := hr_72_2.resolve_right (by omega); clear hr_72_2) | skip
            refine lv_aload_n hx hb dX11_understood_169 rfl (lv_at hl 5 rfl) ?_
            refine lv_aload_n hx hb dX11_understood_170 rfl (lv_at hl 2 rfl) ?_
            refine lv_sipush (v := (-32600)) hx hb dX11_understood_171 (by decide) ?_
            have hsz_104 := hh_100.2.2.2.2.2.1
            have htt_104 := hh_100.2.2.2.2.2.2.1
            refine W.room (fun hrc_104 hrs_104 => ?_)
            refine va_callv (A0 := jA base) (H0 := s.heap) (va_runV (As := [.ref H_48.size, .int (-32600)]) (rest := []) ⟨hx, hb, hml, hown, hts⟩ (uX11_refuse l dC dI ca base B hB hAp hB2 hB4 hB10 hB13 hB196 G_51 H_100 r0 H_48.size (-32600) bo pc pa n_pa ou LC LS) (cwV 2 hts (jgV (jWr_26 _ (List.mem_of_getElem? (i := 3) rfl)) (jWr_26 _ (List.mem_of_getElem? (i := 4) rfl)) (jWr_26 _ (List.mem_of_getElem? (i := 5) rfl)) (jWr_1 _ (List.mem_of_getElem? (i := 2) rfl)) (jWr_26 _ (List.mem_of_getElem? (i := 6) rfl))) rfl rfl rfl (by decide +kernel) ⟨by rw [← hR]; exact Nat.le_of_ble_eq_true rfl, by rw [← hR]; exact Nat.le_of_ble_eq_true rfl⟩) ⟨fun a U g mk q => by obtain ⟨q0, q1, q2, qK, q10, q11, q12, q13, q14, q15, q16, q17⟩ := q; exact ⟨q0, q1, q2, jG.calling g mk a qK, q10, q11, q12, q13, q14, q15, q16, q17⟩, hh_100.recv (C := RX11) (T := TX11) (N := 19) hB13 rfl (by decide) hg_53 hK, fun U hU hW => ⟨rfl, hU, hh_100.2.1, hG.step hW hU hh_100.1, hgc_51, hg_53, hg_55, hg_66, hg_56, (hh_100.2.2.1.sub (L1 := [(r0, 13, 4, .ref bo), (bo, 2, 1, .int pc), (bo, 2, 0, .ref pa), (r0, 13, 3, .ref ou)]) [5, 0, 1, 6] rfl), (hh_100.2.2.2.2.2.2.2.2.sub (L1 := [(jFy, jYb dC dI G_51)]) [1] rfl), (by omega), (by omega), ⟨(by first | omega | rfl | assumption | fail), (by first | omega | rfl | assumption | fail), (by first | omega | rfl | assumption | fail), (by first | omega | rfl | assumption | fail), (by first | assumption | fail | omega)⟩⟩⟩ rfl rfl hl.1 rfl (lv_room (Nat.le_of_ble_eq_true rfl)) dX11_understood_174 ⟨by rw [hRc]; omega, by rw [hRs]; omega⟩) hh_100.1 (fun q _ h => h) (fun q h => h) (fun u_104 t_104 H_104 locs_104 ht_104 hvm_104 hr_105 hb_104 hz_104 hk_104 hS_104 => ?_)
            obtain ⟨qc_104, qa_104, m_qa_104, G_104⟩ := u_104
            rw [ht_104] at hb_104
            simp only at hb_104
            obtain ⟨⟨hb_1041, hb_1042, hb_1043, hb_1044, hb_1045, hb_1046⟩, hgq_104_0, hN_104, hbO_104, hbE_104⟩ := hb_104
            have hY_104 := hN_104
            have hN_104 : (jNk [0, 1, 3, 4, 5, 6, 7, 8, 9, 11, 12, 13, 14, 15, 16]) G_51 G_104 := hN_104.sub (by decide)
            have hh_104 : jSt (dC, dI) B base G0 G_104 EX11_understood s.heap (((n_pa - n_pa) / 16 + 11) + ((m_qa_104 - n_pa) / 16)) ((2 * (n_pa - n_pa) + 267) + (2 * (m_qa_104 - n_pa))) [(bo, 2, 1, .int qc_104), (bo, 2, 0, .ref qa_104), (js, 6, 7, .int qv_5), (js, 6, 8, .int qu_5), (fm, 4, 0, .ref body_4), (r0, 13, 4, .ref bo), (r0, 13, 3, .ref ou), (r0, 13, 2, .ref js), (js, 6, 0, .ref wk), (js, 6, 1, .ref wi), (js, 6, 2, .ref wz), (js, 6, 4, .ref jkf), (js, 6, 5, .ref jks), (r0, 13, 1, .ref fm), (fm, 4, 1, .int fl)] [(wk, 140, 1502, ca 1, gk_5), (wi, 141, 1502, ca 1, gi_5), (wz, 142, 1502, ca 1, gz_5), (jkf, 144, 1502, ca 1, ga_5), (jks, 145, 1502, ca 1, gs_5)] [] H_104 locs_104 := (hh_100.callG hb_1041 hb_1042 hb_1043 hb_1044 hb_1045 hS_104 rfl (L1 := [(js, 6, 7, .int qv_5), (js, 6, 8, .int qu_5), (fm, 4, 0, .ref body_4), (r0, 13, 4, .ref bo), (r0, 13, 3, .ref ou), (r0, 13, 2, .ref js), (js, 6, 0, .ref wk), (js, 6, 1, .ref wi), (js, 6, 2, .ref wz), (js, 6, 4, .ref jkf), (js, 6, 5, .ref jks), (r0, 13, 1, .ref fm), (fm, 4, 1, .int fl)]) [2, 3, 4, 5, 6, 7, 8, 9, 10, 11, 12, 13, 14] rfl rfl (M1 := [(wk, 140, 1502, ca 1, gk_5), (wi, 141, 1502, ca 1, gi_5), (wz, 142, 1502, ca 1, gz_5), (jkf, 144, 1502, ca 1, ga_5), (jks, 145, 1502, ca 1, gs_5)]) [0, 1, 2, 3, 4] rfl rfl (I1 := []) [] rfl rfl).more hb_1046
            have hNn_104 : (jNk [0, 1, 3, 4, 5, 6, 7, 8, 9, 11, 12, 13, 14, 15, 16]) G0 G_104 := (hNn_51).tr hN_104
            have hg_106 := hb_1042 _ _ hgc_51
            have hg_107 := hb_1042 _ _ hg_53
            have hg_108 := hb_1042 _ _ hg_54
            have hg_109 := hb_1042 _ _ hg_55
            have hg_110 := hb_1042 _ _ hg_56
            have hg_111 := hb_1042 _ _ hg_57
            have hg_112 := hb_1042 _ _ hg_58
            have hg_113 := hb_1042 _ _ hg_59
            have hg_114 := hb_1042 _ _ hg_60
            have hg_115 := hb_1042 _ _ hg_61
            have hg_116 := hb_1042 _ _ hg_62
            have hg_117 := hb_1042 _ _ hg_63
            have hh_118 := hh_104.addIs hbE_104
            have hd_119 := jOl.trL (hh_100.iv 0 rfl) hh_100.2.2.2.2.1 hbO_104 (by simp)
            have hh_120 := hh_118.addI (jOl.ie (dC := dC) (dI := dI) (G0 := G0) (k := 2) (rs := [bo, ou]) (H0 := s.heap) (F := [(2, 0), (2, 1)]) (C := RX0) (T := TX0) (N := 2) rfl (by decide) hh_118.2.2.2.2.1 (hd_119))
            clear hh_118
            try simp only at hr_105
            obtain ⟨hr_105_0, hr_105_1, hr_105_2, hr_105_3, hr_105_4⟩ := hr_105
            have hh_121 := hh_120.wk (zc1 := (m_qa_104 - n_pa) / 16 + 11) (zs1 := 2 * (m_qa_104 - n_pa) + 267) (by omega) (by omega)
            clear hh_120
            try clear hsz_104 htt_104 hrc_104 hrs_104
            try clear hb_1044 hb_1045
            refine lv_null hx hb dX11_understood_177 ?_
            have hsz_122 := hh_121.2.2.2.2.2.1
            have htt_122 := hh_121.2.2.2.2.2.2.1
            refine W.room (fun hrc_122 hrs_122 => ?_)
            refine W.widen (k := LC - s.heap.size) (n := LS - jTot s.heap) (by omega) (by omega) ?_
            rw [hQ]
            exact W.aret (v := .null) hx hb hr (Or.inl ⟨_, rfl⟩) (Or.inl rfl) (fun t ht hW => ⟨⟨.null, (qc_104, qv_5, qu_5, qa_104, m_qa_104, gk_5, gi_5, gz_5, ga_5, gs_5, 0, G_104), rfl, ⟨Or.inl rfl, by skip; (try dsimp only); refine ⟨by omega, by omega, by omega, by omega, by assumption, by omega, by omega, by omega, hr_6p_2, ?_⟩; exact Or.inl rfl⟩, ⟨hh_121.ra (by first | omega | (simp only; omega)) (by first | omega | (simp only; omega)) (M1 := [(bo, 2, 1, .int qc_104), (js, 6, 7, .int qv_5), (js, 6, 8, .int qu_5), (bo, 2, 0, .ref qa_104)]) [0, 2, 3, 1] rfl ht, hgq_104_0, hNn_104, by rw [ht]; exact hh_121.iv 0 rfl, by rw [ht]; exact hh_121.2.2.2.2.2.2.2.2.sub (L1 := [(jFy, jYb dC dI G_104)]) [1] rfl, by rw [ht]; exact hh_121.2.2.2.2.2.2.2.1.sub [0, 1, 2, 3, 4] rfl⟩⟩, by rw [ht]; try exact hh_121.1.1, fun q h9 hq => by rw [ht]; try exact hh_121.1.2.1 q h9 hq⟩) hh_121.1.2.2 dX11_understood_178
        · skip
          have c_102' : r_101.toInt = 3 := jb_ne_n (rfl) ((by decide)) c_102
          first | (have hr_99_2q := hr_99_2.resolve_left (by omega); clear hr_99_2) | (have hr_99_2q := hr_99_2.resolve_right (by omega); clear hr_99_2) | try clear hr_99_2
          first | (have hr_101q := hr_101.resolve_left (by omega); clear hr_101) | (have hr_101q := hr_101.resolve_right (by omega); clear hr_101) | try clear hr_101
          refine lv_iload hx hb dX11_understood_128 (lv_at hl 0 rfl) ?_
          refine lv_if_lt (tgt := 146) hx hb dX11_understood_130 (by decide) (fun c_123 => ?_) (fun c_123 => ?_)
          · skip
            have c_123' : r_72.toInt < 0 := jb_lt (rfl) ((by decide)) c_123
            first | (have hr_49_2q := hr_49_2.resolve_left (by omega); clear hr_49_2) | (have hr_49_2q := hr_49_2.resolve_right (by omega); clear hr_49_2) | skip
            first | (have hr_72_2q := hr_72_2.resolve_left (by omega); clear hr_72_2) | (have hr_72_2q := hr_72_2.resolve_right (by omega); clear hr_72_2) | skip
            refine lv_iload_n hx hb dX11_understood_146 rfl (lv_at hl 2 rfl) ?_
            refine lv_if_lt (tgt := 157) hx hb dX11_understood_147 (by decide) (fun c_124 => ?_) (fun c_124 => ?_)
            · skip
              have c_124' : r_49.toInt < 0 := jb_lt (rfl) ((by decide)) c_124
              first | (have hr_49_2q := hr_49_2.resolve_left (by omega); clear hr_49_2) | (have hr_49_2q := hr_49_2.resolve_right (by omega); clear hr_49_2) | skip
              first | (have hr_72_2q := hr_72_2.resolve_left (by omega); clear hr_72_2) | (have hr_72_2q := hr_72_2.resolve_right (by omega); clear hr_72_2) | skip
              refine lv_iconst (v := 1) hx hb dX11_understood_157 (by decide) ?_
              refine lv_goto (tgt := 162) hx hb dX11_understood_158 (by decide) ?_
              refine lv_istore (lv' := [(5, .int 1), (4, .int r_72), (3, .ref H_48.size), (2, .int r_49), (1, .int r_6), (0, .ref r0)]) hx hb dX11_understood_162 hl (by decide) rfl (fun ls hl => ?_)
              refine lv_iload hx hb dX11_understood_164 (lv_at hl 0 rfl) ?_
              refine lv_if_ne (tgt := 179) hx hb dX11_understood_166 (by decide) (fun c_125 => ?_) (fun c_125 => ?_)
              · skip
                refine lv_aload_n hx hb dX11_understood_179 rfl (lv_at hl 2 rfl) ?_
                have hsz_126 := hh_100.2.2.2.2.2.1
                have htt_126 := hh_100.2.2.2.2.2.2.1
                refine W.room (fun hrc_126 hrs_126 => ?_)
                refine W.widen (k := LC - s.heap.size) (n := LS - jTot s.heap) (by omega) (by omega) ?_
                rw [hQ]
                exact W.aret (v := .ref H_48.size) hx hb hr (Or.inl ⟨_, rfl⟩) (Or.inr ⟨_, rfl⟩) (fun t ht hW => ⟨⟨.ref H_48.size, (pc, qv_5, qu_5, pa, n_pa, gk_5, gi_5, gz_5, ga_5, gs_5, 0, G_51), rfl, ⟨Or.inr ⟨⟨_, rfl, hgc_51⟩, ⟨_, rfl, hsy_50⟩⟩, by skip; (try dsimp only); refine ⟨by omega, by omega, by omega, by omega, by assumption, by omega, by omega, by omega, hr_6p_2, ?_⟩; exact Or.inr (jUd.of (j := r_74.toInt) (by omega) (by omega) (by omega) (by omega) (by omega) (by omega))⟩, ⟨hh_100.ra (by first | omega | (simp only; omega)) (by first | omega | (simp only; omega)) (M1 := [(bo, 2, 1, .int pc), (js, 6, 7, .int qv_5), (js, 6, 8, .int qu_5), (bo, 2, 0, .ref pa)]) [0, 2, 3, 1] rfl ht, hg_66, hNn_51, by rw [ht]; exact hh_100.iv 0 rfl, by rw [ht]; exact hh_100.2.2.2.2.2.2.2.2.sub (L1 := [(jFy, jYb dC dI G_51)]) [1] rfl, by rw [ht]; exact hh_100.2.2.2.2.2.2.2.1.sub [0, 1, 2, 3, 4] rfl⟩⟩, by rw [ht]; try exact hh_100.1.1, fun q h9 hq => by rw [ht]; try exact hh_100.1.2.1 q h9 hq⟩) hh_100.1.2.2 dX11_understood_180
              · skip
                exact absurd c_125 (by decide)
            · skip
              have c_124' : r_49.toInt ≥ 0 := jb_lt_n (rfl) ((by decide)) c_124
              first | (have hr_49_2q := hr_49_2.resolve_left (by omega); clear hr_49_2) | (have hr_49_2q := hr_49_2.resolve_right (by omega); clear hr_49_2) | skip
              first | (have hr_72_2q := hr_72_2.resolve_left (by omega); clear hr_72_2) | (have hr_72_2q := hr_72_2.resolve_right (by omega); clear hr_72_2) | skip
              refine lv_aload_n hx hb dX11_understood_150 rfl (lv_at hl 1 rfl) ?_
              obtain ⟨v_127, hv_127, hh_128⟩ := hh_100.pin (C := RX8) (T := TX8) (N := 5) hB10 rfl (by decide) hgc_51 (i := 0) (by decide) rfl
              clear hh_100
              rcases hv_127 with rfl | ⟨id_129, rfl, hg_id_129⟩
              · refine j7_read hx hb hown hK (C := RX8) (T := TX8) (N := 5) rfl hly_10_0 hlk_114 (hh_128.at 0 rfl) dX11_understood_151 ?_
                refine lv_ifnullN (tgt := 161) hx hb dX11_understood_154 (by decide) ?_
                refine lv_iconst (v := 0) hx hb dX11_understood_161 (by decide) ?_
                refine lv_istore (lv' := [(5, .int 0), (4, .int r_72), (3, .ref H_48.size), (2, .int r_49), (1, .int r_6), (0, .ref r0)]) hx hb dX11_understood_162 hl (by decide) rfl (fun ls hl => ?_)
                refine lv_iload hx hb dX11_understood_164 (lv_at hl 0 rfl) ?_
                refine lv_if_ne (tgt := 179) hx hb dX11_understood_166 (by decide) (fun c_130 => ?_) (fun c_130 => ?_)
                · skip
                  exact absurd c_130 (by decide)
                · skip
                  first | (have hr_49_2q := hr_49_2.resolve_left (by omega); clear hr_49_2) | (have hr_49_2q := hr_49_2.resolve_right (by omega); clear hr_49_2) | skip
                  first | (have hr_72_2q := hr_72_2.resolve_left (by omega); clear hr_72_2) | (have hr_72_2q := hr_72_2.resolve_right (by omega); clear hr_72_2) | skip
                  refine lv_aload_n hx hb dX11_understood_169 rfl (lv_at hl 5 rfl) ?_
                  refine lv_aload_n hx hb dX11_understood_170 rfl (lv_at hl 2 rfl) ?_
                  refine lv_sipush (v := (-32600)) hx hb dX11_understood_171 (by decide) ?_
                  have hsz_131 := hh_128.2.2.2.2.2.1
                  have htt_131 := hh_128.2.2.2.2.2.2.1
                  refine W.room (fun hrc_131 hrs_131 => ?_)
                  refine va_callv (A0 := jA base) (H0 := s.heap) (va_runV (As := [.ref H_48.size, .int (-32600)]) (rest := []) ⟨hx, hb, hml, hown, hts⟩ (uX11_refuse l dC dI ca base B hB hAp hB2 hB4 hB10 hB13 hB196 G_51 H_100 r0 H_48.size (-32600) bo pc pa n_pa ou LC LS) (cwV 2 hts (jgV (jWr_26 _ (List.mem_of_getElem? (i := 3) rfl)) (jWr_26 _ (List.mem_of_getElem? (i := 4) rfl)) (jWr_26 _ (List.mem_of_getElem? (i := 5) rfl)) (jWr_1 _ (List.mem_of_getElem? (i := 2) rfl)) (jWr_26 _ (List.mem_of_getElem? (i := 6) rfl))) rfl rfl rfl (by decide +kernel) ⟨by rw [← hR]; exact Nat.le_of_ble_eq_true rfl, by rw [← hR]; exact Nat.le_of_ble_eq_true rfl⟩) ⟨fun a U g mk q => by obtain ⟨q0, q1, q2, qK, q10, q11, q12, q13, q14, q15, q16, q17⟩ := q; exact ⟨q0, q1, q2, jG.calling g mk a qK, q10, q11, q12, q13, q14, q15, q16, q17⟩, hh_128.recv (C := RX11) (T := TX11) (N := 19) hB13 rfl (by decide) hg_53 hK, fun U hU hW => ⟨rfl, hU, hh_128.2.1, hG.step hW hU hh_128.1, hgc_51, hg_53, hg_55, hg_66, hg_56, (hh_128.2.2.1.sub (L1 := [(r0, 13, 4, .ref bo), (bo, 2, 1, .int pc), (bo, 2, 0, .ref pa), (r0, 13, 3, .ref ou)]) [6, 1, 2, 7] rfl), (hh_128.2.2.2.2.2.2.2.2.sub (L1 := [(jFy, jYb dC dI G_51)]) [1] rfl), (by omega), (by omega), ⟨(by first | omega | rfl | assumption | fail), (by first | omega | rfl | assumption | fail), (by first | omega | rfl | assumption | fail), (by first | omega | rfl | assumption | fail), (by first | assumption | fail | omega)⟩⟩⟩ rfl rfl hl.1 rfl (lv_room (Nat.le_of_ble_eq_true rfl)) dX11_understood_174 ⟨by rw [hRc]; omega, by rw [hRs]; omega⟩) hh_128.1 (fun q _ h => h) (fun q h => h) (fun u_131 t_131 H_131 locs_131 ht_131 hvm_131 hr_132 hb_131 hz_131 hk_131 hS_131 => ?_)
                  obtain ⟨qc_131, qa_131, m_qa_131, G_131⟩ := u_131
                  rw [ht_131] at hb_131
                  simp only at hb_131
                  obtain ⟨⟨hb_1311, hb_1312, hb_1313, hb_1314, hb_1315, hb_1316⟩, hgq_131_0, hN_131, hbO_131, hbE_131⟩ := hb_131
                  have hY_131 := hN_131
                  have hN_131 : (jNk [0, 1, 3, 4, 5, 6, 7, 8, 9, 11, 12, 13, 14, 15, 16]) G_51 G_131 := hN_131.sub (by decide)
                  have hh_131 : jSt (dC, dI) B base G0 G_131 EX11_understood s.heap (((n_pa - n_pa) / 16 + 11) + ((m_qa_131 - n_pa) / 16)) ((2 * (n_pa - n_pa) + 267) + (2 * (m_qa_131 - n_pa))) [(bo, 2, 1, .int qc_131), (bo, 2, 0, .ref qa_131), (H_48.size, 10, 0, .null), (js, 6, 7, .int qv_5), (js, 6, 8, .int qu_5), (fm, 4, 0, .ref body_4), (r0, 13, 4, .ref bo), (r0, 13, 3, .ref ou), (r0, 13, 2, .ref js), (js, 6, 0, .ref wk), (js, 6, 1, .ref wi), (js, 6, 2, .ref wz), (js, 6, 4, .ref jkf), (js, 6, 5, .ref jks), (r0, 13, 1, .ref fm), (fm, 4, 1, .int fl)] [(wk, 140, 1502, ca 1, gk_5), (wi, 141, 1502, ca 1, gi_5), (wz, 142, 1502, ca 1, gz_5), (jkf, 144, 1502, ca 1, ga_5), (jks, 145, 1502, ca 1, gs_5)] [] H_131 locs_131 := (hh_128.callG hb_1311 hb_1312 hb_1313 hb_1314 hb_1315 hS_131 rfl (L1 := [(H_48.size, 10, 0, .null), (js, 6, 7, .int qv_5), (js, 6, 8, .int qu_5), (fm, 4, 0, .ref body_4), (r0, 13, 4, .ref bo), (r0, 13, 3, .ref ou), (r0, 13, 2, .ref js), (js, 6, 0, .ref wk), (js, 6, 1, .ref wi), (js, 6, 2, .ref wz), (js, 6, 4, .ref jkf), (js, 6, 5, .ref jks), (r0, 13, 1, .ref fm), (fm, 4, 1, .int fl)]) [0, 3, 4, 5, 6, 7, 8, 9, 10, 11, 12, 13, 14, 15] rfl rfl (M1 := [(wk, 140, 1502, ca 1, gk_5), (wi, 141, 1502, ca 1, gi_5), (wz, 142, 1502, ca 1, gz_5), (jkf, 144, 1502, ca 1, ga_5), (jks, 145, 1502, ca 1, gs_5)]) [0, 1, 2, 3, 4] rfl rfl (I1 := []) [] rfl rfl).more hb_1316
                  have hNn_131 : (jNk [0, 1, 3, 4, 5, 6, 7, 8, 9, 11, 12, 13, 14, 15, 16]) G0 G_131 := (hNn_51).tr hN_131
                  have hg_133 := hb_1312 _ _ hgc_51
                  have hg_134 := hb_1312 _ _ hg_53
                  have hg_135 := hb_1312 _ _ hg_54
                  have hg_136 := hb_1312 _ _ hg_55
                  have hg_137 := hb_1312 _ _ hg_56
                  have hg_138 := hb_1312 _ _ hg_57
                  have hg_139 := hb_1312 _ _ hg_58
                  have hg_140 := hb_1312 _ _ hg_59
                  have hg_141 := hb_1312 _ _ hg_60
                  have hg_142 := hb_1312 _ _ hg_61
                  have hg_143 := hb_1312 _ _ hg_62
                  have hg_144 := hb_1312 _ _ hg_63
                  have hh_145 := hh_131.addIs hbE_131
                  have hd_146 := jOl.trL (hh_128.iv 0 rfl) hh_128.2.2.2.2.1 hbO_131 (by simp)
                  have hh_147 := hh_145.addI (jOl.ie (dC := dC) (dI := dI) (G0 := G0) (k := 2) (rs := [bo, ou]) (H0 := s.heap) (F := [(2, 0), (2, 1)]) (C := RX0) (T := TX0) (N := 2) rfl (by decide) hh_145.2.2.2.2.1 (hd_146))
                  clear hh_145
                  try simp only at hr_132
                  obtain ⟨hr_132_0, hr_132_1, hr_132_2, hr_132_3, hr_132_4⟩ := hr_132
                  have hh_148 := hh_147.wk (zc1 := (m_qa_131 - n_pa) / 16 + 11) (zs1 := 2 * (m_qa_131 - n_pa) + 267) (by omega) (by omega)
                  clear hh_147
                  try clear hsz_131 htt_131 hrc_131 hrs_131
                  try clear hb_1314 hb_1315
                  refine lv_null hx hb dX11_understood_177 ?_
                  have hsz_149 := hh_148.2.2.2.2.2.1
                  have htt_149 := hh_148.2.2.2.2.2.2.1
                  refine W.room (fun hrc_149 hrs_149 => ?_)
                  refine W.widen (k := LC - s.heap.size) (n := LS - jTot s.heap) (by omega) (by omega) ?_
                  rw [hQ]
                  exact W.aret (v := .null) hx hb hr (Or.inl ⟨_, rfl⟩) (Or.inl rfl) (fun t ht hW => ⟨⟨.null, (qc_131, qv_5, qu_5, qa_131, m_qa_131, gk_5, gi_5, gz_5, ga_5, gs_5, 0, G_131), rfl, ⟨Or.inl rfl, by skip; (try dsimp only); refine ⟨by omega, by omega, by omega, by omega, by assumption, by omega, by omega, by omega, hr_6p_2, ?_⟩; exact Or.inl rfl⟩, ⟨hh_148.ra (by first | omega | (simp only; omega)) (by first | omega | (simp only; omega)) (M1 := [(bo, 2, 1, .int qc_131), (js, 6, 7, .int qv_5), (js, 6, 8, .int qu_5), (bo, 2, 0, .ref qa_131)]) [0, 3, 4, 1] rfl ht, hgq_131_0, hNn_131, by rw [ht]; exact hh_148.iv 0 rfl, by rw [ht]; exact hh_148.2.2.2.2.2.2.2.2.sub (L1 := [(jFy, jYb dC dI G_131)]) [1] rfl, by rw [ht]; exact hh_148.2.2.2.2.2.2.2.1.sub [0, 1, 2, 3, 4] rfl⟩⟩, by rw [ht]; try exact hh_148.1.1, fun q h9 hq => by rw [ht]; try exact hh_148.1.2.1 q h9 hq⟩) hh_148.1.2.2 dX11_understood_178
              · refine j7_read hx hb hown hK (C := RX8) (T := TX8) (N := 5) rfl hly_10_0 hlk_114 (hh_128.at 0 rfl) dX11_understood_151 ?_
                refine lv_ifnull hx hb dX11_understood_154 ?_
                refine lv_iconst (v := 1) hx hb dX11_understood_157 (by decide) ?_
                refine lv_goto (tgt := 162) hx hb dX11_understood_158 (by decide) ?_
                refine lv_istore (lv' := [(5, .int 1), (4, .int r_72), (3, .ref H_48.size), (2, .int r_49), (1, .int r_6), (0, .ref r0)]) hx hb dX11_understood_162 hl (by decide) rfl (fun ls hl => ?_)
                refine lv_iload hx hb dX11_understood_164 (lv_at hl 0 rfl) ?_
                refine lv_if_ne (tgt := 179) hx hb dX11_understood_166 (by decide) (fun c_150 => ?_) (fun c_150 => ?_)
                · skip
                  refine lv_aload_n hx hb dX11_understood_179 rfl (lv_at hl 2 rfl) ?_
                  have hsz_151 := hh_128.2.2.2.2.2.1
                  have htt_151 := hh_128.2.2.2.2.2.2.1
                  refine W.room (fun hrc_151 hrs_151 => ?_)
                  refine W.widen (k := LC - s.heap.size) (n := LS - jTot s.heap) (by omega) (by omega) ?_
                  rw [hQ]
                  exact W.aret (v := .ref H_48.size) hx hb hr (Or.inl ⟨_, rfl⟩) (Or.inr ⟨_, rfl⟩) (fun t ht hW => ⟨⟨.ref H_48.size, (pc, qv_5, qu_5, pa, n_pa, gk_5, gi_5, gz_5, ga_5, gs_5, 0, G_51), rfl, ⟨Or.inr ⟨⟨_, rfl, hgc_51⟩, ⟨_, rfl, hsy_50⟩⟩, by skip; (try dsimp only); refine ⟨by omega, by omega, by omega, by omega, by assumption, by omega, by omega, by omega, hr_6p_2, ?_⟩; exact Or.inr (jUd.of (j := r_74.toInt) (by omega) (by omega) (by omega) (by omega) (by omega) (by omega))⟩, ⟨hh_128.ra (by first | omega | (simp only; omega)) (by first | omega | (simp only; omega)) (M1 := [(bo, 2, 1, .int pc), (js, 6, 7, .int qv_5), (js, 6, 8, .int qu_5), (bo, 2, 0, .ref pa)]) [1, 3, 4, 2] rfl ht, hg_66, hNn_51, by rw [ht]; exact hh_128.iv 0 rfl, by rw [ht]; exact hh_128.2.2.2.2.2.2.2.2.sub (L1 := [(jFy, jYb dC dI G_51)]) [1] rfl, by rw [ht]; exact hh_128.2.2.2.2.2.2.2.1.sub [0, 1, 2, 3, 4] rfl⟩⟩, by rw [ht]; try exact hh_128.1.1, fun q h9 hq => by rw [ht]; try exact hh_128.1.2.1 q h9 hq⟩) hh_128.1.2.2 dX11_understood_180
                · skip
                  exact absurd c_150 (by decide)
          · skip
            have c_123' : r_72.toInt ≥ 0 := jb_lt_n (rfl) ((by decide)) c_123
            first | (have hr_49_2q := hr_49_2.resolve_left (by omega); clear hr_49_2) | (have hr_49_2q := hr_49_2.resolve_right (by omega); clear hr_49_2) | skip
            first | (have hr_72_2q := hr_72_2.resolve_left (by omega); clear hr_72_2) | (have hr_72_2q := hr_72_2.resolve_right (by omega); clear hr_72_2) | skip
            refine lv_aload_n hx hb dX11_understood_133 rfl (lv_at hl 4 rfl) ?_
            refine j7_read hx hb hown hK (C := RX11) (T := TX11) (N := 19) rfl hly_13_2 hlk_28 (hh_100.at 7 rfl) dX11_understood_134 ?_
            refine lv_iload hx hb dX11_understood_137 (lv_at hl 0 rfl) ?_
            have hsz_152 := hh_100.2.2.2.2.2.1
            have htt_152 := hh_100.2.2.2.2.2.2.1
            refine W.room (fun hrc_152 hrs_152 => ?_)
            refine va_calli (A0 := jA base) (H0 := s.heap) (va_runV (As := [.int r_72]) (rest := []) ⟨hx, hb, hml, hown, hts⟩ (uX4_kindOfW l dC dI ca base B hB hAp hB6 hB140 G_51 H_100 js r_72 qv_5 wk wi wz gk_5 gi_5 gz_5) (cwV 1 hts (jgV (jWr_27 _ (List.mem_of_getElem? (i := 5) rfl)) (jWr_23 _ (List.mem_of_getElem? (i := 15) rfl)) (jWr_23 _ (List.mem_of_getElem? (i := 16) rfl)) (jWr_1 _ (List.mem_of_getElem? (i := 22) rfl)) (jWr_23 _ (List.mem_of_getElem? (i := 17) rfl))) rfl rfl rfl (by decide +kernel) ⟨by rw [← hR]; exact Nat.le_of_ble_eq_true rfl, by rw [← hR]; exact Nat.le_of_ble_eq_true rfl⟩) ⟨fun a U g mk q => by obtain ⟨q0, q1, q2, qK, q10, q11, q12, q13, q14, q15, q16⟩ := q; exact ⟨q0, q1, q2, jG.calling g mk a qK, q10, q11, q12, q13, q14, q15, q16⟩, hh_100.recv (C := RX4) (T := TX4) (N := 12) hB6 rfl (by decide) hg_57 hK, fun U hU hW => ⟨rfl, hU, hh_100.2.1, hG.step hW hU hh_100.1, hg_57, hg_58, hg_59, hg_60, (hh_100.2.2.1.sub (L1 := [(js, 6, 7, .int qv_5), (js, 6, 0, .ref wk), (js, 6, 1, .ref wi), (js, 6, 2, .ref wz)]) [2, 8, 9, 10] rfl), (hh_100.2.2.2.2.2.2.2.1.sub (L1 := [(wk, 140, 1502, ca 1, gk_5), (wi, 141, 1502, ca 1, gi_5), (wz, 142, 1502, ca 1, gz_5)]) [0, 1, 2] rfl), ⟨(by first | omega | rfl | assumption | fail), (by first | omega | rfl | assumption | fail)⟩⟩⟩ rfl rfl hl.1 rfl (lv_room (Nat.le_of_ble_eq_true rfl)) dX11_understood_139 ⟨by rw [hRc]; show _ + 0 ≤ _; omega, by rw [hRs]; show _ + 0 ≤ _; omega⟩) hh_100.1 (fun q _ h => h) (fun q h => h) (fun r_153 u_152 t_152 H_152 locs_152 ht_152 hvm_152 hr_153 hb_152 hz_152 hk_152 hS_152 => ?_)
            rw [ht_152] at hb_152
            obtain ⟨hb_152, hbF_152⟩ := hb_152
            obtain ⟨hb_1521, hb_1522, hb_1523, hb_1524, hb_1525⟩ := hb_152
            have hh_152 : jSt (dC, dI) B base G0 G_51 EX11_understood s.heap ((n_pa - n_pa) / 16 + 11) (2 * (n_pa - n_pa) + 267) [(bo, 2, 1, .int pc), (bo, 2, 0, .ref pa), (js, 6, 7, .int qv_5), (js, 6, 8, .int qu_5), (fm, 4, 0, .ref body_4), (r0, 13, 4, .ref bo), (r0, 13, 3, .ref ou), (r0, 13, 2, .ref js), (js, 6, 0, .ref wk), (js, 6, 1, .ref wi), (js, 6, 2, .ref wz), (js, 6, 4, .ref jkf), (js, 6, 5, .ref jks), (r0, 13, 1, .ref fm), (fm, 4, 1, .int fl)] [(wk, 140, 1502, ca 1, gk_5), (wi, 141, 1502, ca 1, gi_5), (wz, 142, 1502, ca 1, gz_5), (jkf, 144, 1502, ca 1, ga_5), (jks, 145, 1502, ca 1, gs_5)] [([(2, 0), (2, 1)], jOl (dC, dI) G0 2 [bo, ou] s.heap), (jFy, jYb dC dI G_51)] H_152 locs_152 := ((hh_100.call hb_1521 hb_1522 hb_1523 hb_1524 hS_152 rfl (L1 := [(bo, 2, 1, .int pc), (bo, 2, 0, .ref pa), (js, 6, 7, .int qv_5), (js, 6, 8, .int qu_5), (fm, 4, 0, .ref body_4), (r0, 13, 4, .ref bo), (r0, 13, 3, .ref ou), (r0, 13, 2, .ref js), (js, 6, 0, .ref wk), (js, 6, 1, .ref wi), (js, 6, 2, .ref wz), (js, 6, 4, .ref jkf), (js, 6, 5, .ref jks), (r0, 13, 1, .ref fm), (fm, 4, 1, .int fl)]) [0, 1, 2, 3, 4, 5, 6, 7, 8, 9, 10, 11, 12, 13, 14] rfl rfl (M1 := [(wk, 140, 1502, ca 1, gk_5), (wi, 141, 1502, ca 1, gi_5), (wz, 142, 1502, ca 1, gz_5), (jkf, 144, 1502, ca 1, ga_5), (jks, 145, 1502, ca 1, gs_5)]) [0, 1, 2, 3, 4] rfl rfl (I1 := [([(2, 0), (2, 1)], jOl (dC, dI) G0 2 [bo, ou] s.heap), (jFy, jYb dC dI G_51)]) [0, 1] rfl rfl).more hb_1525)
            clear hh_100 ht_152 hvm_152 hz_152 hk_152 hS_152 hb_1521 hb_1522 hb_1523 hb_1524 hb_1525
            refine lv_iconst (v := 1) hx hb dX11_understood_142 (by decide) ?_
            refine lv_icmp_ne (tgt := 161) hx hb dX11_understood_143 (by decide) (fun c_154 => ?_) (fun c_154 => ?_)
            · skip
              have c_154' : r_153.toInt ≠ 1 := jb_ne (rfl) ((by decide)) c_154
              try clear hr_153
              refine lv_iconst (v := 0) hx hb dX11_understood_161 (by decide) ?_
              refine lv_istore (lv' := [(5, .int 0), (4, .int r_72), (3, .ref H_48.size), (2, .int r_49), (1, .int r_6), (0, .ref r0)]) hx hb dX11_understood_162 hl (by decide) rfl (fun ls hl => ?_)
              refine lv_iload hx hb dX11_understood_164 (lv_at hl 0 rfl) ?_
              refine lv_if_ne (tgt := 179) hx hb dX11_understood_166 (by decide) (fun c_155 => ?_) (fun c_155 => ?_)
              · skip
                exact absurd c_155 (by decide)
              · skip
                first | (have hr_49_2q := hr_49_2.resolve_left (by omega); clear hr_49_2) | (have hr_49_2q := hr_49_2.resolve_right (by omega); clear hr_49_2) | skip
                first | (have hr_72_2q := hr_72_2.resolve_left (by omega); clear hr_72_2) | (have hr_72_2q := hr_72_2.resolve_right (by omega); clear hr_72_2) | skip
                refine lv_aload_n hx hb dX11_understood_169 rfl (lv_at hl 5 rfl) ?_
                refine lv_aload_n hx hb dX11_understood_170 rfl (lv_at hl 2 rfl) ?_
                refine lv_sipush (v := (-32600)) hx hb dX11_understood_171 (by decide) ?_
                have hsz_156 := hh_152.2.2.2.2.2.1
                have htt_156 := hh_152.2.2.2.2.2.2.1
                refine W.room (fun hrc_156 hrs_156 => ?_)
                refine va_callv (A0 := jA base) (H0 := s.heap) (va_runV (As := [.ref H_48.size, .int (-32600)]) (rest := []) ⟨hx, hb, hml, hown, hts⟩ (uX11_refuse l dC dI ca base B hB hAp hB2 hB4 hB10 hB13 hB196 G_51 H_152 r0 H_48.size (-32600) bo pc pa n_pa ou LC LS) (cwV 2 hts (jgV (jWr_26 _ (List.mem_of_getElem? (i := 3) rfl)) (jWr_26 _ (List.mem_of_getElem? (i := 4) rfl)) (jWr_26 _ (List.mem_of_getElem? (i := 5) rfl)) (jWr_1 _ (List.mem_of_getElem? (i := 2) rfl)) (jWr_26 _ (List.mem_of_getElem? (i := 6) rfl))) rfl rfl rfl (by decide +kernel) ⟨by rw [← hR]; exact Nat.le_of_ble_eq_true rfl, by rw [← hR]; exact Nat.le_of_ble_eq_true rfl⟩) ⟨fun a U g mk q => by obtain ⟨q0, q1, q2, qK, q10, q11, q12, q13, q14, q15, q16, q17⟩ := q; exact ⟨q0, q1, q2, jG.calling g mk a qK, q10, q11, q12, q13, q14, q15, q16, q17⟩, hh_152.recv (C := RX11) (T := TX11) (N := 19) hB13 rfl (by decide) hg_53 hK, fun U hU hW => ⟨rfl, hU, hh_152.2.1, hG.step hW hU hh_152.1, hgc_51, hg_53, hg_55, hg_66, hg_56, (hh_152.2.2.1.sub (L1 := [(r0, 13, 4, .ref bo), (bo, 2, 1, .int pc), (bo, 2, 0, .ref pa), (r0, 13, 3, .ref ou)]) [5, 0, 1, 6] rfl), (hh_152.2.2.2.2.2.2.2.2.sub (L1 := [(jFy, jYb dC dI G_51)]) [1] rfl), (by omega), (by omega), ⟨(by first | omega | rfl | assumption | fail), (by first | omega | rfl | assumption | fail), (by first | omega | rfl | assumption | fail), (by first | omega | rfl | assumption | fail), (by first | assumption | fail | omega)⟩⟩⟩ rfl rfl hl.1 rfl (lv_room (Nat.le_of_ble_eq_true rfl)) dX11_understood_174 ⟨by rw [hRc]; omega, by rw [hRs]; omega⟩) hh_152.1 (fun q _ h => h) (fun q h => h) (fun u_156 t_156 H_156 locs_156 ht_156 hvm_156 hr_157 hb_156 hz_156 hk_156 hS_156 => ?_)
                obtain ⟨qc_156, qa_156, m_qa_156, G_156⟩ := u_156
                rw [ht_156] at hb_156
                simp only at hb_156
                obtain ⟨⟨hb_1561, hb_1562, hb_1563, hb_1564, hb_1565, hb_1566⟩, hgq_156_0, hN_156, hbO_156, hbE_156⟩ := hb_156
                have hY_156 := hN_156
                have hN_156 : (jNk [0, 1, 3, 4, 5, 6, 7, 8, 9, 11, 12, 13, 14, 15, 16]) G_51 G_156 := hN_156.sub (by decide)
                have hh_156 : jSt (dC, dI) B base G0 G_156 EX11_understood s.heap (((n_pa - n_pa) / 16 + 11) + ((m_qa_156 - n_pa) / 16)) ((2 * (n_pa - n_pa) + 267) + (2 * (m_qa_156 - n_pa))) [(bo, 2, 1, .int qc_156), (bo, 2, 0, .ref qa_156), (js, 6, 7, .int qv_5), (js, 6, 8, .int qu_5), (fm, 4, 0, .ref body_4), (r0, 13, 4, .ref bo), (r0, 13, 3, .ref ou), (r0, 13, 2, .ref js), (js, 6, 0, .ref wk), (js, 6, 1, .ref wi), (js, 6, 2, .ref wz), (js, 6, 4, .ref jkf), (js, 6, 5, .ref jks), (r0, 13, 1, .ref fm), (fm, 4, 1, .int fl)] [(wk, 140, 1502, ca 1, gk_5), (wi, 141, 1502, ca 1, gi_5), (wz, 142, 1502, ca 1, gz_5), (jkf, 144, 1502, ca 1, ga_5), (jks, 145, 1502, ca 1, gs_5)] [] H_156 locs_156 := (hh_152.callG hb_1561 hb_1562 hb_1563 hb_1564 hb_1565 hS_156 rfl (L1 := [(js, 6, 7, .int qv_5), (js, 6, 8, .int qu_5), (fm, 4, 0, .ref body_4), (r0, 13, 4, .ref bo), (r0, 13, 3, .ref ou), (r0, 13, 2, .ref js), (js, 6, 0, .ref wk), (js, 6, 1, .ref wi), (js, 6, 2, .ref wz), (js, 6, 4, .ref jkf), (js, 6, 5, .ref jks), (r0, 13, 1, .ref fm), (fm, 4, 1, .int fl)]) [2, 3, 4, 5, 6, 7, 8, 9, 10, 11, 12, 13, 14] rfl rfl (M1 := [(wk, 140, 1502, ca 1, gk_5), (wi, 141, 1502, ca 1, gi_5), (wz, 142, 1502, ca 1, gz_5), (jkf, 144, 1502, ca 1, ga_5), (jks, 145, 1502, ca 1, gs_5)]) [0, 1, 2, 3, 4] rfl rfl (I1 := []) [] rfl rfl).more hb_1566
                have hNn_156 : (jNk [0, 1, 3, 4, 5, 6, 7, 8, 9, 11, 12, 13, 14, 15, 16]) G0 G_156 := (hNn_51).tr hN_156
                have hg_158 := hb_1562 _ _ hgc_51
                have hg_159 := hb_1562 _ _ hg_53
                have hg_160 := hb_1562 _ _ hg_54
                have hg_161 := hb_1562 _ _ hg_55
                have hg_162 := hb_1562 _ _ hg_56
                have hg_163 := hb_1562 _ _ hg_57
                have hg_164 := hb_1562 _ _ hg_58
                have hg_165 := hb_1562 _ _ hg_59
                have hg_166 := hb_1562 _ _ hg_60
                have hg_167 := hb_1562 _ _ hg_61
                have hg_168 := hb_1562 _ _ hg_62
                have hg_169 := hb_1562 _ _ hg_63
                have hh_170 := hh_156.addIs hbE_156
                have hd_171 := jOl.trL (hh_152.iv 0 rfl) hh_152.2.2.2.2.1 hbO_156 (by simp)
                have hh_172 := hh_170.addI (jOl.ie (dC := dC) (dI := dI) (G0 := G0) (k := 2) (rs := [bo, ou]) (H0 := s.heap) (F := [(2, 0), (2, 1)]) (C := RX0) (T := TX0) (N := 2) rfl (by decide) hh_170.2.2.2.2.1 (hd_171))
                clear hh_170
                try simp only at hr_157
                obtain ⟨hr_157_0, hr_157_1, hr_157_2, hr_157_3, hr_157_4⟩ := hr_157
                have hh_173 := hh_172.wk (zc1 := (m_qa_156 - n_pa) / 16 + 11) (zs1 := 2 * (m_qa_156 - n_pa) + 267) (by omega) (by omega)
                clear hh_172
                try clear hsz_156 htt_156 hrc_156 hrs_156
                try clear hb_1564 hb_1565
                refine lv_null hx hb dX11_understood_177 ?_
                have hsz_174 := hh_173.2.2.2.2.2.1
                have htt_174 := hh_173.2.2.2.2.2.2.1
                refine W.room (fun hrc_174 hrs_174 => ?_)
                refine W.widen (k := LC - s.heap.size) (n := LS - jTot s.heap) (by omega) (by omega) ?_
                rw [hQ]
                exact W.aret (v := .null) hx hb hr (Or.inl ⟨_, rfl⟩) (Or.inl rfl) (fun t ht hW => ⟨⟨.null, (qc_156, qv_5, qu_5, qa_156, m_qa_156, gk_5, gi_5, gz_5, ga_5, gs_5, 0, G_156), rfl, ⟨Or.inl rfl, by skip; (try dsimp only); refine ⟨by omega, by omega, by omega, by omega, by assumption, by omega, by omega, by omega, hr_6p_2, ?_⟩; exact Or.inl rfl⟩, ⟨hh_173.ra (by first | omega | (simp only; omega)) (by first | omega | (simp only; omega)) (M1 := [(bo, 2, 1, .int qc_156), (js, 6, 7, .int qv_5), (js, 6, 8, .int qu_5), (bo, 2, 0, .ref qa_156)]) [0, 2, 3, 1] rfl ht, hgq_156_0, hNn_156, by rw [ht]; exact hh_173.iv 0 rfl, by rw [ht]; exact hh_173.2.2.2.2.2.2.2.2.sub (L1 := [(jFy, jYb dC dI G_156)]) [1] rfl, by rw [ht]; exact hh_173.2.2.2.2.2.2.2.1.sub [0, 1, 2, 3, 4] rfl⟩⟩, by rw [ht]; try exact hh_173.1.1, fun q h9 hq => by rw [ht]; try exact hh_173.1.2.1 q h9 hq⟩) hh_173.1.2.2 dX11_understood_178
            · skip
              have c_154' : r_153.toInt = 1 := jb_ne_n (rfl) ((by decide)) c_154
              first | (have hr_72_2q := hr_72_2.resolve_left (by omega); clear hr_72_2) | (have hr_72_2q := hr_72_2.resolve_right (by omega); clear hr_72_2) | skip
              first | (have hr_153q := hr_153.resolve_left (by omega); clear hr_153) | (have hr_153q := hr_153.resolve_right (by omega); clear hr_153) | try clear hr_153
              refine lv_iload_n hx hb dX11_understood_146 rfl (lv_at hl 2 rfl) ?_
              refine lv_if_lt (tgt := 157) hx hb dX11_understood_147 (by decide) (fun c_175 => ?_) (fun c_175 => ?_)
              · skip
                have c_175' : r_49.toInt < 0 := jb_lt (rfl) ((by decide)) c_175
                first | (have hr_49_2q := hr_49_2.resolve_left (by omega); clear hr_49_2) | (have hr_49_2q := hr_49_2.resolve_right (by omega); clear hr_49_2) | skip
                first | (have hr_72_2q := hr_72_2.resolve_left (by omega); clear hr_72_2) | (have hr_72_2q := hr_72_2.resolve_right (by omega); clear hr_72_2) | skip
                refine lv_iconst (v := 1) hx hb dX11_understood_157 (by decide) ?_
                refine lv_goto (tgt := 162) hx hb dX11_understood_158 (by decide) ?_
                refine lv_istore (lv' := [(5, .int 1), (4, .int r_72), (3, .ref H_48.size), (2, .int r_49), (1, .int r_6), (0, .ref r0)]) hx hb dX11_understood_162 hl (by decide) rfl (fun ls hl => ?_)
                refine lv_iload hx hb dX11_understood_164 (lv_at hl 0 rfl) ?_
                refine lv_if_ne (tgt := 179) hx hb dX11_understood_166 (by decide) (fun c_176 => ?_) (fun c_176 => ?_)
                · skip
                  refine lv_aload_n hx hb dX11_understood_179 rfl (lv_at hl 2 rfl) ?_
                  have hsz_177 := hh_152.2.2.2.2.2.1
                  have htt_177 := hh_152.2.2.2.2.2.2.1
                  refine W.room (fun hrc_177 hrs_177 => ?_)
                  refine W.widen (k := LC - s.heap.size) (n := LS - jTot s.heap) (by omega) (by omega) ?_
                  rw [hQ]
                  exact W.aret (v := .ref H_48.size) hx hb hr (Or.inl ⟨_, rfl⟩) (Or.inr ⟨_, rfl⟩) (fun t ht hW => ⟨⟨.ref H_48.size, (pc, qv_5, qu_5, pa, n_pa, gk_5, gi_5, gz_5, ga_5, gs_5, 0, G_51), rfl, ⟨Or.inr ⟨⟨_, rfl, hgc_51⟩, ⟨_, rfl, hsy_50⟩⟩, by skip; (try dsimp only); refine ⟨by omega, by omega, by omega, by omega, by assumption, by omega, by omega, by omega, hr_6p_2, ?_⟩; exact Or.inr (jUd.of (j := r_74.toInt) (by omega) (by omega) (by omega) (by omega) (by omega) (by omega))⟩, ⟨hh_152.ra (by first | omega | (simp only; omega)) (by first | omega | (simp only; omega)) (M1 := [(bo, 2, 1, .int pc), (js, 6, 7, .int qv_5), (js, 6, 8, .int qu_5), (bo, 2, 0, .ref pa)]) [0, 2, 3, 1] rfl ht, hg_66, hNn_51, by rw [ht]; exact hh_152.iv 0 rfl, by rw [ht]; exact hh_152.2.2.2.2.2.2.2.2.sub (L1 := [(jFy, jYb dC dI G_51)]) [1] rfl, by rw [ht]; exact hh_152.2.2.2.2.2.2.2.1.sub [0, 1, 2, 3, 4] rfl⟩⟩, by rw [ht]; try exact hh_152.1.1, fun q h9 hq => by rw [ht]; try exact hh_152.1.2.1 q h9 hq⟩) hh_152.1.2.2 dX11_understood_180
                · skip
                  exact absurd c_176 (by decide)
              · skip
                have c_175' : r_49.toInt ≥ 0 := jb_lt_n (rfl) ((by decide)) c_175
                first | (have hr_49_2q := hr_49_2.resolve_left (by omega); clear hr_49_2) | (have hr_49_2q := hr_49_2.resolve_right (by omega); clear hr_49_2) | skip
                first | (have hr_72_2q := hr_72_2.resolve_left (by omega); clear hr_72_2) | (have hr_72_2q := hr_72_2.resolve_right (by omega); clear hr_72_2) | skip
                refine lv_aload_n hx hb dX11_understood_150 rfl (lv_at hl 1 rfl) ?_
                obtain ⟨v_178, hv_178, hh_179⟩ := hh_152.pin (C := RX8) (T := TX8) (N := 5) hB10 rfl (by decide) hgc_51 (i := 0) (by decide) rfl
                clear hh_152
                rcases hv_178 with rfl | ⟨id_180, rfl, hg_id_180⟩
                · refine j7_read hx hb hown hK (C := RX8) (T := TX8) (N := 5) rfl hly_10_0 hlk_114 (hh_179.at 0 rfl) dX11_understood_151 ?_
                  refine lv_ifnullN (tgt := 161) hx hb dX11_understood_154 (by decide) ?_
                  refine lv_iconst (v := 0) hx hb dX11_understood_161 (by decide) ?_
                  refine lv_istore (lv' := [(5, .int 0), (4, .int r_72), (3, .ref H_48.size), (2, .int r_49), (1, .int r_6), (0, .ref r0)]) hx hb dX11_understood_162 hl (by decide) rfl (fun ls hl => ?_)
                  refine lv_iload hx hb dX11_understood_164 (lv_at hl 0 rfl) ?_
                  refine lv_if_ne (tgt := 179) hx hb dX11_understood_166 (by decide) (fun c_181 => ?_) (fun c_181 => ?_)
                  · skip
                    exact absurd c_181 (by decide)
                  · skip
                    first | (have hr_49_2q := hr_49_2.resolve_left (by omega); clear hr_49_2) | (have hr_49_2q := hr_49_2.resolve_right (by omega); clear hr_49_2) | skip
                    first | (have hr_72_2q := hr_72_2.resolve_left (by omega); clear hr_72_2) | (have hr_72_2q := hr_72_2.resolve_right (by omega); clear hr_72_2) | skip
                    refine lv_aload_n hx hb dX11_understood_169 rfl (lv_at hl 5 rfl) ?_
                    refine lv_aload_n hx hb dX11_understood_170 rfl (lv_at hl 2 rfl) ?_
                    refine lv_sipush (v := (-32600)) hx hb dX11_understood_171 (by decide) ?_
                    have hsz_182 := hh_179.2.2.2.2.2.1
                    have htt_182 := hh_179.2.2.2.2.2.2.1
                    refine W.room (fun hrc_182 hrs_182 => ?_)
                    refine va_callv (A0 := jA base) (H0 := s.heap) (va_runV (As := [.ref H_48.size, .int (-32600)]) (rest := []) ⟨hx, hb, hml, hown, hts⟩ (uX11_refuse l dC dI ca base B hB hAp hB2 hB4 hB10 hB13 hB196 G_51 H_152 r0 H_48.size (-32600) bo pc pa n_pa ou LC LS) (cwV 2 hts (jgV (jWr_26 _ (List.mem_of_getElem? (i := 3) rfl)) (jWr_26 _ (List.mem_of_getElem? (i := 4) rfl)) (jWr_26 _ (List.mem_of_getElem? (i := 5) rfl)) (jWr_1 _ (List.mem_of_getElem? (i := 2) rfl)) (jWr_26 _ (List.mem_of_getElem? (i := 6) rfl))) rfl rfl rfl (by decide +kernel) ⟨by rw [← hR]; exact Nat.le_of_ble_eq_true rfl, by rw [← hR]; exact Nat.le_of_ble_eq_true rfl⟩) ⟨fun a U g mk q => by obtain ⟨q0, q1, q2, qK, q10, q11, q12, q13, q14, q15, q16, q17⟩ := q; exact ⟨q0, q1, q2, jG.calling g mk a qK, q10, q11, q12, q13, q14, q15, q16, q17⟩, hh_179.recv (C := RX11) (T := TX11) (N := 19) hB13 rfl (by decide) hg_53 hK, fun U hU hW => ⟨rfl, hU, hh_179.2.1, hG.step hW hU hh_179.1, hgc_51, hg_53, hg_55, hg_66, hg_56, (hh_179.2.2.1.sub (L1 := [(r0, 13, 4, .ref bo), (bo, 2, 1, .int pc), (bo, 2, 0, .ref pa), (r0, 13, 3, .ref ou)]) [6, 1, 2, 7] rfl), (hh_179.2.2.2.2.2.2.2.2.sub (L1 := [(jFy, jYb dC dI G_51)]) [1] rfl), (by omega), (by omega), ⟨(by first | omega | rfl | assumption | fail), (by first | omega | rfl | assumption | fail), (by first | omega | rfl | assumption | fail), (by first | omega | rfl | assumption | fail), (by first | assumption | fail | omega)⟩⟩⟩ rfl rfl hl.1 rfl (lv_room (Nat.le_of_ble_eq_true rfl)) dX11_understood_174 ⟨by rw [hRc]; omega, by rw [hRs]; omega⟩) hh_179.1 (fun q _ h => h) (fun q h => h) (fun u_182 t_182 H_182 locs_182 ht_182 hvm_182 hr_183 hb_182 hz_182 hk_182 hS_182 => ?_)
                    obtain ⟨qc_182, qa_182, m_qa_182, G_182⟩ := u_182
                    rw [ht_182] at hb_182
                    simp only at hb_182
                    obtain ⟨⟨hb_1821, hb_1822, hb_1823, hb_1824, hb_1825, hb_1826⟩, hgq_182_0, hN_182, hbO_182, hbE_182⟩ := hb_182
                    have hY_182 := hN_182
                    have hN_182 : (jNk [0, 1, 3, 4, 5, 6, 7, 8, 9, 11, 12, 13, 14, 15, 16]) G_51 G_182 := hN_182.sub (by decide)
                    have hh_182 : jSt (dC, dI) B base G0 G_182 EX11_understood s.heap (((n_pa - n_pa) / 16 + 11) + ((m_qa_182 - n_pa) / 16)) ((2 * (n_pa - n_pa) + 267) + (2 * (m_qa_182 - n_pa))) [(bo, 2, 1, .int qc_182), (bo, 2, 0, .ref qa_182), (H_48.size, 10, 0, .null), (js, 6, 7, .int qv_5), (js, 6, 8, .int qu_5), (fm, 4, 0, .ref body_4), (r0, 13, 4, .ref bo), (r0, 13, 3, .ref ou), (r0, 13, 2, .ref js), (js, 6, 0, .ref wk), (js, 6, 1, .ref wi), (js, 6, 2, .ref wz), (js, 6, 4, .ref jkf), (js, 6, 5, .ref jks), (r0, 13, 1, .ref fm), (fm, 4, 1, .int fl)] [(wk, 140, 1502, ca 1, gk_5), (wi, 141, 1502, ca 1, gi_5), (wz, 142, 1502, ca 1, gz_5), (jkf, 144, 1502, ca 1, ga_5), (jks, 145, 1502, ca 1, gs_5)] [] H_182 locs_182 := (hh_179.callG hb_1821 hb_1822 hb_1823 hb_1824 hb_1825 hS_182 rfl (L1 := [(H_48.size, 10, 0, .null), (js, 6, 7, .int qv_5), (js, 6, 8, .int qu_5), (fm, 4, 0, .ref body_4), (r0, 13, 4, .ref bo), (r0, 13, 3, .ref ou), (r0, 13, 2, .ref js), (js, 6, 0, .ref wk), (js, 6, 1, .ref wi), (js, 6, 2, .ref wz), (js, 6, 4, .ref jkf), (js, 6, 5, .ref jks), (r0, 13, 1, .ref fm), (fm, 4, 1, .int fl)]) [0, 3, 4, 5, 6, 7, 8, 9, 10, 11, 12, 13, 14, 15] rfl rfl (M1 := [(wk, 140, 1502, ca 1, gk_5), (wi, 141, 1502, ca 1, gi_5), (wz, 142, 1502, ca 1, gz_5), (jkf, 144, 1502, ca 1, ga_5), (jks, 145, 1502, ca 1, gs_5)]) [0, 1, 2, 3, 4] rfl rfl (I1 := []) [] rfl rfl).more hb_1826
                    have hNn_182 : (jNk [0, 1, 3, 4, 5, 6, 7, 8, 9, 11, 12, 13, 14, 15, 16]) G0 G_182 := (hNn_51).tr hN_182
                    have hg_184 := hb_1822 _ _ hgc_51
                    have hg_185 := hb_1822 _ _ hg_53
                    have hg_186 := hb_1822 _ _ hg_54
                    have hg_187 := hb_1822 _ _ hg_55
                    have hg_188 := hb_1822 _ _ hg_56
                    have hg_189 := hb_1822 _ _ hg_57
                    have hg_190 := hb_1822 _ _ hg_58
                    have hg_191 := hb_1822 _ _ hg_59
                    have hg_192 := hb_1822 _ _ hg_60
                    have hg_193 := hb_1822 _ _ hg_61
                    have hg_194 := hb_1822 _ _ hg_62
                    have hg_195 := hb_1822 _ _ hg_63
                    have hh_196 := hh_182.addIs hbE_182
                    have hd_197 := jOl.trL (hh_179.iv 0 rfl) hh_179.2.2.2.2.1 hbO_182 (by simp)
                    have hh_198 := hh_196.addI (jOl.ie (dC := dC) (dI := dI) (G0 := G0) (k := 2) (rs := [bo, ou]) (H0 := s.heap) (F := [(2, 0), (2, 1)]) (C := RX0) (T := TX0) (N := 2) rfl (by decide) hh_196.2.2.2.2.1 (hd_197))
                    clear hh_196
                    try simp only at hr_183
                    obtain ⟨hr_183_0, hr_183_1, hr_183_2, hr_183_3, hr_183_4⟩ := hr_183
                    have hh_199 := hh_198.wk (zc1 := (m_qa_182 - n_pa) / 16 + 11) (zs1 := 2 * (m_qa_182 - n_pa) + 267) (by omega) (by omega)
                    clear hh_198
                    try clear hsz_182 htt_182 hrc_182 hrs_182
                    try clear hb_1824 hb_1825
                    refine lv_null hx hb dX11_understood_177 ?_
                    have hsz_200 := hh_199.2.2.2.2.2.1
                    have htt_200 := hh_199.2.2.2.2.2.2.1
                    refine W.room (fun hrc_200 hrs_200 => ?_)
                    refine W.widen (k := LC - s.heap.size) (n := LS - jTot s.heap) (by omega) (by omega) ?_
                    rw [hQ]
                    exact W.aret (v := .null) hx hb hr (Or.inl ⟨_, rfl⟩) (Or.inl rfl) (fun t ht hW => ⟨⟨.null, (qc_182, qv_5, qu_5, qa_182, m_qa_182, gk_5, gi_5, gz_5, ga_5, gs_5, 0, G_182), rfl, ⟨Or.inl rfl, by skip; (try dsimp only); refine ⟨by omega, by omega, by omega, by omega, by assumption, by omega, by omega, by omega, hr_6p_2, ?_⟩; exact Or.inl rfl⟩, ⟨hh_199.ra (by first | omega | (simp only; omega)) (by first | omega | (simp only; omega)) (M1 := [(bo, 2, 1, .int qc_182), (js, 6, 7, .int qv_5), (js, 6, 8, .int qu_5), (bo, 2, 0, .ref qa_182)]) [0, 3, 4, 1] rfl ht, hgq_182_0, hNn_182, by rw [ht]; exact hh_199.iv 0 rfl, by rw [ht]; exact hh_199.2.2.2.2.2.2.2.2.sub (L1 := [(jFy, jYb dC dI G_182)]) [1] rfl, by rw [ht]; exact hh_199.2.2.2.2.2.2.2.1.sub [0, 1, 2, 3, 4] rfl⟩⟩, by rw [ht]; try exact hh_199.1.1, fun q h9 hq => by rw [ht]; try exact hh_199.1.2.1 q h9 hq⟩) hh_199.1.2.2 dX11_understood_178
                · refine j7_read hx hb hown hK (C := RX8) (T := TX8) (N := 5) rfl hly_10_0 hlk_114 (hh_179.at 0 rfl) dX11_understood_151 ?_
                  refine lv_ifnull hx hb dX11_understood_154 ?_
                  refine lv_iconst (v := 1) hx hb dX11_understood_157 (by decide) ?_
                  refine lv_goto (tgt := 162) hx hb dX11_understood_158 (by decide) ?_
                  refine lv_istore (lv' := [(5, .int 1), (4, .int r_72), (3, .ref H_48.size), (2, .int r_49), (1, .int r_6), (0, .ref r0)]) hx hb dX11_understood_162 hl (by decide) rfl (fun ls hl => ?_)
                  refine lv_iload hx hb dX11_understood_164 (lv_at hl 0 rfl) ?_
                  refine lv_if_ne (tgt := 179) hx hb dX11_understood_166 (by decide) (fun c_201 => ?_) (fun c_201 => ?_)
                  · skip
                    refine lv_aload_n hx hb dX11_understood_179 rfl (lv_at hl 2 rfl) ?_
                    have hsz_202 := hh_179.2.2.2.2.2.1
                    have htt_202 := hh_179.2.2.2.2.2.2.1
                    refine W.room (fun hrc_202 hrs_202 => ?_)
                    refine W.widen (k := LC - s.heap.size) (n := LS - jTot s.heap) (by omega) (by omega) ?_
                    rw [hQ]
                    exact W.aret (v := .ref H_48.size) hx hb hr (Or.inl ⟨_, rfl⟩) (Or.inr ⟨_, rfl⟩) (fun t ht hW => ⟨⟨.ref H_48.size, (pc, qv_5, qu_5, pa, n_pa, gk_5, gi_5, gz_5, ga_5, gs_5, 0, G_51), rfl, ⟨Or.inr ⟨⟨_, rfl, hgc_51⟩, ⟨_, rfl, hsy_50⟩⟩, by skip; (try dsimp only); refine ⟨by omega, by omega, by omega, by omega, by assumption, by omega, by omega, by omega, hr_6p_2, ?_⟩; exact Or.inr (jUd.of (j := r_74.toInt) (by omega) (by omega) (by omega) (by omega) (by omega) (by omega))⟩, ⟨hh_179.ra (by first | omega | (simp only; omega)) (by first | omega | (simp only; omega)) (M1 := [(bo, 2, 1, .int pc), (js, 6, 7, .int qv_5), (js, 6, 8, .int qu_5), (bo, 2, 0, .ref pa)]) [1, 3, 4, 2] rfl ht, hg_66, hNn_51, by rw [ht]; exact hh_179.iv 0 rfl, by rw [ht]; exact hh_179.2.2.2.2.2.2.2.2.sub (L1 := [(jFy, jYb dC dI G_51)]) [1] rfl, by rw [ht]; exact hh_179.2.2.2.2.2.2.2.1.sub [0, 1, 2, 3, 4] rfl⟩⟩, by rw [ht]; try exact hh_179.1.1, fun q h9 hq => by rw [ht]; try exact hh_179.1.2.1 q h9 hq⟩) hh_179.1.2.2 dX11_understood_180
                  · skip
                    exact absurd c_201 (by decide)
    · skip
      have c_70' : r_6.toInt = 0 := jb_ne_n (rfl) ((by decide)) c_70
      exact (by omega : False).elim
end
