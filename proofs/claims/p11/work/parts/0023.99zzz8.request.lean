section
theorem dX11_request_0 : decode cX11_request 0 = .ok (.aload_n 0, 1) := by decide +kernel
theorem dX11_request_1 : decode cX11_request 1 = .ok (.getfield 28, 3) := by decide +kernel
theorem dX11_request_4 : decode cX11_request 4 = .ok (.iconst 0, 1) := by decide +kernel
theorem dX11_request_5 : decode cX11_request 5 = .ok (.ldc_w 281, 3) := by decide +kernel
theorem dX11_request_8 : decode cX11_request 8 = .ok (.invokevirtual 260, 3) := by decide +kernel
theorem dX11_request_11 : decode cX11_request 11 = .ok (.istore_n 2, 1) := by decide +kernel
theorem dX11_request_12 : decode cX11_request 12 = .ok (.aload_n 0, 1) := by decide +kernel
theorem dX11_request_13 : decode cX11_request 13 = .ok (.getfield 28, 3) := by decide +kernel
theorem dX11_request_16 : decode cX11_request 16 = .ok (.iload_n 2, 1) := by decide +kernel
theorem dX11_request_17 : decode cX11_request 17 = .ok (.ldc_w 287, 3) := by decide +kernel
theorem dX11_request_20 : decode cX11_request 20 = .ok (.invokevirtual 277, 3) := by decide +kernel
theorem dX11_request_23 : decode cX11_request 23 = .ok (.istore_n 3, 1) := by decide +kernel
theorem dX11_request_24 : decode cX11_request 24 = .ok (.aload_n 0, 1) := by decide +kernel
theorem dX11_request_25 : decode cX11_request 25 = .ok (.getfield 77, 3) := by decide +kernel
theorem dX11_request_28 : decode cX11_request 28 = .ok (.ifCond .ne 37, 3) := by decide +kernel
theorem dX11_request_31 : decode cX11_request 31 = .ok (.iload_n 3, 1) := by decide +kernel
theorem dX11_request_32 : decode cX11_request 32 = .ok (.ifCond .eq 33, 3) := by decide +kernel
theorem dX11_request_35 : decode cX11_request 35 = .ok (.aload_n 0, 1) := by decide +kernel
theorem dX11_request_36 : decode cX11_request 36 = .ok (.iconst 1, 1) := by decide +kernel
theorem dX11_request_37 : decode cX11_request 37 = .ok (.putfield 77, 3) := by decide +kernel
theorem dX11_request_40 : decode cX11_request 40 = .ok (.aload_n 0, 1) := by decide +kernel
theorem dX11_request_41 : decode cX11_request 41 = .ok (.aload_n 1, 1) := by decide +kernel
theorem dX11_request_42 : decode cX11_request 42 = .ok (.ldc_w 289, 3) := by decide +kernel
theorem dX11_request_45 : decode cX11_request 45 = .ok (.invokevirtual 291, 3) := by decide +kernel
theorem dX11_request_48 : decode cX11_request 48 = .ok (.aload_n 0, 1) := by decide +kernel
theorem dX11_request_49 : decode cX11_request 49 = .ok (.getfield 35, 3) := by decide +kernel
theorem dX11_request_52 : decode cX11_request 52 = .ok (.ldc_w 295, 3) := by decide +kernel
theorem dX11_request_55 : decode cX11_request 55 = .ok (.invokevirtual 297, 3) := by decide +kernel
theorem dX11_request_58 : decode cX11_request 58 = .ok (.aload_n 0, 1) := by decide +kernel
theorem dX11_request_59 : decode cX11_request 59 = .ok (.invokevirtual 300, 3) := by decide +kernel
theorem dX11_request_62 : decode cX11_request 62 = .ok (.goto 150, 3) := by decide +kernel
theorem dX11_request_65 : decode cX11_request 65 = .ok (.aload_n 0, 1) := by decide +kernel
theorem dX11_request_66 : decode cX11_request 66 = .ok (.getfield 77, 3) := by decide +kernel
theorem dX11_request_69 : decode cX11_request 69 = .ok (.ifCond .ne 14, 3) := by decide +kernel
theorem dX11_request_72 : decode cX11_request 72 = .ok (.aload_n 0, 1) := by decide +kernel
theorem dX11_request_73 : decode cX11_request 73 = .ok (.aload_n 1, 1) := by decide +kernel
theorem dX11_request_74 : decode cX11_request 74 = .ok (.sipush (-32002), 3) := by decide +kernel
theorem dX11_request_77 : decode cX11_request 77 = .ok (.invokevirtual 267, 3) := by decide +kernel
theorem dX11_request_80 : decode cX11_request 80 = .ok (.goto 132, 3) := by decide +kernel
theorem dX11_request_83 : decode cX11_request 83 = .ok (.aload_n 0, 1) := by decide +kernel
theorem dX11_request_84 : decode cX11_request 84 = .ok (.getfield 77, 3) := by decide +kernel
theorem dX11_request_87 : decode cX11_request 87 = .ok (.iconst 2, 1) := by decide +kernel
theorem dX11_request_88 : decode cX11_request 88 = .ok (.if_icmp .eq 7, 3) := by decide +kernel
theorem dX11_request_91 : decode cX11_request 91 = .ok (.iload_n 3, 1) := by decide +kernel
theorem dX11_request_92 : decode cX11_request 92 = .ok (.ifCond .eq 14, 3) := by decide +kernel
theorem dX11_request_95 : decode cX11_request 95 = .ok (.aload_n 0, 1) := by decide +kernel
theorem dX11_request_96 : decode cX11_request 96 = .ok (.aload_n 1, 1) := by decide +kernel
theorem dX11_request_97 : decode cX11_request 97 = .ok (.sipush (-32600), 3) := by decide +kernel
theorem dX11_request_100 : decode cX11_request 100 = .ok (.invokevirtual 267, 3) := by decide +kernel
theorem dX11_request_103 : decode cX11_request 103 = .ok (.goto 109, 3) := by decide +kernel
theorem dX11_request_106 : decode cX11_request 106 = .ok (.aload_n 0, 1) := by decide +kernel
theorem dX11_request_107 : decode cX11_request 107 = .ok (.getfield 28, 3) := by decide +kernel
theorem dX11_request_110 : decode cX11_request 110 = .ok (.iload_n 2, 1) := by decide +kernel
theorem dX11_request_111 : decode cX11_request 111 = .ok (.ldc_w 303, 3) := by decide +kernel
theorem dX11_request_114 : decode cX11_request 114 = .ok (.invokevirtual 277, 3) := by decide +kernel
theorem dX11_request_117 : decode cX11_request 117 = .ok (.ifCond .eq 33, 3) := by decide +kernel
theorem dX11_request_120 : decode cX11_request 120 = .ok (.aload_n 0, 1) := by decide +kernel
theorem dX11_request_121 : decode cX11_request 121 = .ok (.iconst 2, 1) := by decide +kernel
theorem dX11_request_122 : decode cX11_request 122 = .ok (.putfield 77, 3) := by decide +kernel
theorem dX11_request_125 : decode cX11_request 125 = .ok (.aload_n 0, 1) := by decide +kernel
theorem dX11_request_126 : decode cX11_request 126 = .ok (.aload_n 1, 1) := by decide +kernel
theorem dX11_request_127 : decode cX11_request 127 = .ok (.ldc_w 289, 3) := by decide +kernel
theorem dX11_request_130 : decode cX11_request 130 = .ok (.invokevirtual 291, 3) := by decide +kernel
theorem dX11_request_133 : decode cX11_request 133 = .ok (.aload_n 0, 1) := by decide +kernel
theorem dX11_request_134 : decode cX11_request 134 = .ok (.getfield 35, 3) := by decide +kernel
theorem dX11_request_137 : decode cX11_request 137 = .ok (.ldc_w 305, 3) := by decide +kernel
theorem dX11_request_140 : decode cX11_request 140 = .ok (.invokevirtual 297, 3) := by decide +kernel
theorem dX11_request_143 : decode cX11_request 143 = .ok (.aload_n 0, 1) := by decide +kernel
theorem dX11_request_144 : decode cX11_request 144 = .ok (.invokevirtual 300, 3) := by decide +kernel
theorem dX11_request_147 : decode cX11_request 147 = .ok (.goto 65, 3) := by decide +kernel
theorem dX11_request_150 : decode cX11_request 150 = .ok (.aload_n 0, 1) := by decide +kernel
theorem dX11_request_151 : decode cX11_request 151 = .ok (.getfield 28, 3) := by decide +kernel
theorem dX11_request_154 : decode cX11_request 154 = .ok (.iload_n 2, 1) := by decide +kernel
theorem dX11_request_155 : decode cX11_request 155 = .ok (.ldc_w 307, 3) := by decide +kernel
theorem dX11_request_158 : decode cX11_request 158 = .ok (.invokevirtual 277, 3) := by decide +kernel
theorem dX11_request_161 : decode cX11_request 161 = .ok (.ifCond .eq 16, 3) := by decide +kernel
theorem dX11_request_164 : decode cX11_request 164 = .ok (.aload_n 0, 1) := by decide +kernel
theorem dX11_request_165 : decode cX11_request 165 = .ok (.aload_n 1, 1) := by decide +kernel
theorem dX11_request_166 : decode cX11_request 166 = .ok (.aload_n 0, 1) := by decide +kernel
theorem dX11_request_167 : decode cX11_request 167 = .ok (.aload_n 1, 1) := by decide +kernel
theorem dX11_request_168 : decode cX11_request 168 = .ok (.invokevirtual 309, 3) := by decide +kernel
theorem dX11_request_171 : decode cX11_request 171 = .ok (.invokevirtual 313, 3) := by decide +kernel
theorem dX11_request_174 : decode cX11_request 174 = .ok (.goto 38, 3) := by decide +kernel
theorem dX11_request_177 : decode cX11_request 177 = .ok (.aload_n 0, 1) := by decide +kernel
theorem dX11_request_178 : decode cX11_request 178 = .ok (.getfield 28, 3) := by decide +kernel
theorem dX11_request_181 : decode cX11_request 181 = .ok (.iload_n 2, 1) := by decide +kernel
theorem dX11_request_182 : decode cX11_request 182 = .ok (.ldc_w 317, 3) := by decide +kernel
theorem dX11_request_185 : decode cX11_request 185 = .ok (.invokevirtual 277, 3) := by decide +kernel
theorem dX11_request_188 : decode cX11_request 188 = .ok (.ifCond .eq 16, 3) := by decide +kernel
theorem dX11_request_191 : decode cX11_request 191 = .ok (.aload_n 0, 1) := by decide +kernel
theorem dX11_request_192 : decode cX11_request 192 = .ok (.aload_n 1, 1) := by decide +kernel
theorem dX11_request_193 : decode cX11_request 193 = .ok (.aload_n 0, 1) := by decide +kernel
theorem dX11_request_194 : decode cX11_request 194 = .ok (.aload_n 1, 1) := by decide +kernel
theorem dX11_request_195 : decode cX11_request 195 = .ok (.invokevirtual 319, 3) := by decide +kernel
theorem dX11_request_198 : decode cX11_request 198 = .ok (.invokevirtual 313, 3) := by decide +kernel
theorem dX11_request_201 : decode cX11_request 201 = .ok (.goto 11, 3) := by decide +kernel
theorem dX11_request_204 : decode cX11_request 204 = .ok (.aload_n 0, 1) := by decide +kernel
theorem dX11_request_205 : decode cX11_request 205 = .ok (.aload_n 1, 1) := by decide +kernel
theorem dX11_request_206 : decode cX11_request 206 = .ok (.sipush (-32601), 3) := by decide +kernel
theorem dX11_request_209 : decode cX11_request 209 = .ok (.invokevirtual 267, 3) := by decide +kernel
theorem dX11_request_212 : decode cX11_request 212 = .ok (.return_, 1) := by decide +kernel
def EX11_request : List (Nat × Nat) := [(1, 0), (1, 1), (1, 2), (2, 0), (2, 1), (8, 3), (9, 2), (10, 1), (10, 2), (10, 3), (10, 4), (13, 11), (13, 14), (101, 0), (102, 0), (132, 0), (133, 0), (196, 0), (221, 0), (222, 0), (223, 0), (286, 0), (287, 0), (288, 0)]
def qtx865 : String := match tables_1[865]? with | some (Jvm.Cond.stringRef _ _ t) => t | _ => ""
set_option maxHeartbeats 4000000 in
set_option maxRecDepth 20000 in
theorem uX11_request (l : Launch) (dC : Nat → ClassId) (dI : Nat → Nat → Nat) (ca : Nat → ClassId) (base : Nat) (B : jF) (hB : jBok B) (hAp : jAp (dC, dI)) (hB1 : ∀ n G a H, B 1 n G a H ↔ jOb (dC, dI) 1 3 (F1 n G) a H) (hB2 : ∀ n G a H, B 2 n G a H ↔ jOb (dC, dI) 2 2 (F2 n G) a H) (hB3 : ∀ n G a H, B 3 n G a H ↔ jOb (dC, dI) 3 17 (F3 n G) a H) (hB4 : ∀ n G a H, B 4 n G a H ↔ jOb (dC, dI) 4 12 (F4 n G) a H) (hB5 : ∀ n G a H, B 5 n G a H ↔ jOb (dC, dI) 5 4 (F5 n G) a H) (hB6 : ∀ n G a H, B 6 n G a H ↔ jOb (dC, dI) 6 12 (F6 n G) a H) (hB7 : ∀ n G a H, B 7 n G a H ↔ jOb (dC, dI) 7 11 (F7 n G) a H) (hB8 : ∀ n G a H, B 8 n G a H ↔ jOb (dC, dI) 8 4 (F8 n G) a H) (hB9 : ∀ n G a H, B 9 n G a H ↔ jOb (dC, dI) 9 5 (F9b n G) a H) (hB10 : ∀ n G a H, B 10 n G a H ↔ jOb (dC, dI) 10 5 (F10 n G) a H) (hB11 : ∀ n G a H, B 11 n G a H ↔ jOb (dC, dI) 11 9 (F11 n G) a H) (hB13 : ∀ n G a H, B 13 n G a H ↔ jOb (dC, dI) 13 19 (F13 n G) a H) (hB101 : ∀ n G a H, B 101 n G a H ↔ jAr (dC, dI) (ca 1) (fun j z => True) n a H) (hB102 : ∀ n G a H, B 102 n G a H ↔ jAl (dC, dI) (ca 2) n a H) (hB132 : ∀ n G a H, B 132 n G a H ↔ jAr (dC, dI) (ca 1) (fun j z => 0 ≤ z.toInt ∧ z.toInt ≤ 10) n a H) (hB133 : ∀ n G a H, B 133 n G a H ↔ jAr (dC, dI) (ca 1) (fun j z => 0 ≤ z.toInt ∧ z.toInt ≤ 8192) n a H) (hB140 : ∀ n G a H, B 140 n G a H ↔ jAr (dC, dI) (ca 1) (fun j z => True) n a H) (hB141 : ∀ n G a H, B 141 n G a H ↔ jAr (dC, dI) (ca 1) (fun j z => True) n a H) (hB142 : ∀ n G a H, B 142 n G a H ↔ jAr (dC, dI) (ca 1) (fun j z => True) n a H) (hB143 : ∀ n G a H, B 143 n G a H ↔ jAr (dC, dI) (ca 1) (fun j z => True) n a H) (hB144 : ∀ n G a H, B 144 n G a H ↔ jAr (dC, dI) (ca 1) (fun j z => 0 ≤ z.toInt ∧ z.toInt ≤ 3000) n a H) (hB145 : ∀ n G a H, B 145 n G a H ↔ jAr (dC, dI) (ca 1) (fun j z => True) n a H) (hB146 : ∀ n G a H, B 146 n G a H ↔ jAr (dC, dI) (ca 1) (fun j z => True) n a H) (hB172 : ∀ n G a H, B 172 n G a H ↔ jAr (dC, dI) (ca 1) (fun j z => 0 ≤ z.toInt ∧ z.toInt ≤ 1500) n a H) (hB196 : ∀ n G a H, B 196 n G a H ↔ jAr (dC, dI) (ca 0) (fun j z => jBf j z) n a H) (hB210 : ∀ n G a H, B 210 n G a H ↔ jAq (dC, dI) (ca 6) (jQn 11 0) n G a H) (hB214 : ∀ n G a H, B 214 n G a H ↔ jAq (dC, dI) (ca 7) (jQg) n G a H) (hB221 : ∀ n G a H, B 221 n G a H ↔ jAq (dC, dI) (ca 9) (jQn 3 0) n G a H) (hB222 : ∀ n G a H, B 222 n G a H ↔ jAq (dC, dI) (ca 9) (jQn 10 0) n G a H) (hB280 : ∀ n G a H, B 280 n G a H ↔ jAr (dC, dI) (ca 1) (fun j z => -1 ≤ z.toInt) n a H) (hB286 : ∀ n G a H, B 286 n G a H ↔ jAr (dC, dI) (ca 1) (fun j z => (0 ≤ z.toInt ∨ z.toInt = -3)) n a H) (hB287 : ∀ n G a H, B 287 n G a H ↔ jAr (dC, dI) (ca 1) (fun j z => 0 ≤ z.toInt ∧ z.toInt ≤ 65535) n a H) (hB288 : ∀ n G a H, B 288 n G a H ↔ jAr (dC, dI) (ca 1) (fun j z => 0 ≤ z.toInt ∧ z.toInt ≤ 160) n a H) (hB313 : ∀ n G a H, B 313 n G a H ↔ jAq (dC, dI) (ca 8) (jQk 280 80) n G a H) (G0 : jT) (H0 : Heap) (r0 : Nat) (r1 : Nat) (bo : Nat) (pc : Int32) (pa : Nat) (n_pa : Nat) (ou : Nat) (js : Nat) (pv : Int32) (pu : Int32) (wk : Nat) (wi : Nat) (wz : Nat) (jks : Nat) (fk : Nat → Int32) (fi : Nat → Int32) (fz : Nat → Int32) (fs : Nat → Int32) (LC LS : Nat) : Met l yX11_request (jw yX11_request cX11_request 4 none) ({ frames := 9, cells := LC - H0.size, slots := LS - jTot H0, locals := 263 }) (va_Pc [.ref r0, .ref r1] (fun U => U.heap = H0 ∧ jX B base G0 [] H0 ∧ jG dC dI ca base U ∧ jK2 dC dI ca U ∧ jK5 dC dI ca U ∧ jK7 dC dI ca base U ∧ G0 r0 = some (13, 0) ∧ G0 r1 = some (10, 0) ∧ G0 bo = some (2, 0) ∧ G0 pa = some (196, n_pa) ∧ G0 ou = some (2, 20000) ∧ G0 js = some (6, 0) ∧ G0 wk = some (140, 1502) ∧ G0 wi = some (141, 1502) ∧ G0 wz = some (142, 1502) ∧ G0 jks = some (145, 1502) ∧ jP (dC, dI) G0 H0 [(r0, 13, 4, .ref bo), (bo, 2, 1, .int pc), (bo, 2, 0, .ref pa), (r0, 13, 3, .ref ou), (r0, 13, 2, .ref js), (js, 6, 7, .int pv), (js, 6, 8, .int pu), (js, 6, 0, .ref wk), (js, 6, 1, .ref wi), (js, 6, 2, .ref wz), (js, 6, 5, .ref jks)] ∧ jMc (dC, dI) G0 H0 [(wk, 140, 1502, ca 1, fk), (wi, 141, 1502, ca 1, fi), (wz, 142, 1502, ca 1, fz), (jks, 145, 1502, ca 1, fs)] ∧ jIs (dC, dI) G0 H0 [(jFy, jYb dC dI G0), (jFs11, jSef dC dI G0), (jFl, jLs dC dI ca G0 3 none)] ∧ H0.size + (1048576 - n_pa) / 16 + 4 ≤ LC ∧ jTot H0 + 2 * (1048576 - n_pa) + 3100 ≤ LS ∧ 0 ≤ pc.toInt ∧ pc.toInt ≤ n_pa ∧ 16 ≤ n_pa ∧ n_pa ≤ 1048576 ∧ jPw n_pa ∧ 0 ≤ pv.toInt ∧ pv.toInt ≤ 1502 ∧ 0 ≤ pu.toInt ∧ pu.toInt ≤ 3000 ∧ jJq fk fi fz pv.toInt ∧ jJu fk fz pv.toInt pu.toInt)) (va_Qv (S := Int32 × Nat × Nat × jT) (fun u => 0 ≤ u.1.toInt ∧ u.1.toInt ≤ u.2.2.1 ∧ n_pa ≤ u.2.2.1 ∧ u.2.2.1 ≤ 1048576 ∧ jPw u.2.2.1) (fun u t => jRa (dC, dI) B base G0 u.2.2.2 EX11_request H0 ((u.2.2.1 - n_pa) / 16 + 2) (2 * (u.2.2.1 - n_pa) + 40 + pu.toInt.toNat) [(bo, 2, 1, .int u.1), (bo, 2, 0, .ref u.2.1)] t.heap ∧ u.2.2.2 u.2.1 = some (196, u.2.2.1) ∧ (jNk [0, 1, 2, 3, 4, 5, 6, 7, 8, 9, 10, 11, 12, 13, 14, 15, 16]) G0 u.2.2.2 ∧ jOl (dC, dI) G0 2 [bo, ou] H0 t.heap ∧ jIs (dC, dI) u.2.2.2 t.heap [(jFy, jYb dC dI u.2.2.2), (jFs11, jSef dC dI u.2.2.2), (jFl, jLs dC dI ca u.2.2.2 3 none)]) (jA base)) (LC - H0.size) (LS - jTot H0) (jA base) := by
  refine Met.ofW (cc := cX11_request) (maxL := 4) (ret := none) (by decide) rfl ?_
  intro p e s m args below meth c s₁ Bd hml hv
  obtain ⟨rfl, hH0, hX, hG, hK2, hK5, hK7, hg_r0, hg_r1, hg_bo, hg_pa, hg_ou, hg_js, hg_wk, hg_wi, hg_wz, hg_jks, hP0, hM0, hI0, hLC0, hLS0, hp0, hp1, hp2, hp3, hp4, hp5, hp6, hp7, hp8, hp9, hp10⟩ := hv
  have hK := hG.1
  have hx := Bd.exec
  have hb := Bd.bytes
  have hr := Bd.returns
  have hts := atoms_spec (ws := (jw yX11_request cX11_request 4 none)) Bd.pre
  have htw : ∀ w ∈ jWl, w.before _ s = true := fun w h => hts w (List.mem_cons_of_mem _ h)
  have hown : s.vm.findClass RX11 = some m.cls := findClass_of_methodNamed Bd.named
  have hlocks := Bd.notSynchronized
  obtain ⟨Q, hQ⟩ : ∃ Q, Q = MQ below (va_Qv (S := Int32 × Nat × Nat × jT) (fun u => 0 ≤ u.1.toInt ∧ u.1.toInt ≤ u.2.2.1 ∧ n_pa ≤ u.2.2.1 ∧ u.2.2.1 ≤ 1048576 ∧ jPw u.2.2.1) (fun u t => jRa (dC, dI) B base G0 u.2.2.2 EX11_request H0 ((u.2.2.1 - n_pa) / 16 + 2) (2 * (u.2.2.1 - n_pa) + 40 + pu.toInt.toNat) [(bo, 2, 1, .int u.1), (bo, 2, 0, .ref u.2.1)] t.heap ∧ u.2.2.2 u.2.1 = some (196, u.2.2.1) ∧ (jNk [0, 1, 2, 3, 4, 5, 6, 7, 8, 9, 10, 11, 12, 13, 14, 15, 16]) G0 u.2.2.2 ∧ jOl (dC, dI) G0 2 [bo, ou] H0 t.heap ∧ jIs (dC, dI) u.2.2.2 t.heap [(jFy, jYb dC dI u.2.2.2), (jFs11, jSef dC dI u.2.2.2), (jFl, jLs dC dI ca u.2.2.2 3 none)]) (jA base)) ([.ref r0, .ref r1] : List Value).toArray s (LC - H0.size) (LS - jTot H0) (jA base) := ⟨_, rfl⟩
  rw [← hQ]
  have hl := lv_entry ([.ref r0, .ref r1]) (n := 4) (Nat.le_of_ble_eq_true rfl)
  rw [lg_entry_eq]
  generalize (lg_sl ([.ref r0, .ref r1]) ++ List.replicate (4 - (lg_sl ([.ref r0, .ref r1])).length) Slot.unset).toArray = ls at hl ⊢
  have hl : lv_has ls 4 [(0, .ref r0), (1, .ref r1)] := hl
  generalize hR : (headSpec (jw yX11_request cX11_request 4 none) ({ frames := 9, cells := LC - H0.size, slots := LS - jTot H0, locals := 263 })).room = R
  subst hH0
  have hh : jSt (dC, dI) B base G0 G0 EX11_request s.heap 0 0 [(r0, 13, 4, .ref bo), (bo, 2, 1, .int pc), (bo, 2, 0, .ref pa), (r0, 13, 3, .ref ou), (r0, 13, 2, .ref js), (js, 6, 7, .int pv), (js, 6, 8, .int pu), (js, 6, 0, .ref wk), (js, 6, 1, .ref wi), (js, 6, 2, .ref wz), (js, 6, 5, .ref jks)] [(wk, 140, 1502, ca 1, fk), (wi, 141, 1502, ca 1, fi), (wz, 142, 1502, ca 1, fz), (jks, 145, 1502, ca 1, fs)] [(jFy, jYb dC dI G0), (jFs11, jSef dC dI G0), (jFl, jLs dC dI ca G0 3 none)] s.heap [] := jSt.start hX hP0 hM0 hI0
  clear hX hP0
  have hkm32601 : ((-32601) : Int32).toInt = (-32601) := by decide
  have hkm32600 : ((-32600) : Int32).toInt = (-32600) := by decide
  have hkm32002 : ((-32002) : Int32).toInt = (-32002) := by decide
  have hk0 : (0 : Int32).toInt = 0 := by decide
  have hk1 : (1 : Int32).toInt = 1 := by decide
  have hk2 : (2 : Int32).toInt = 2 := by decide
  have hly_13_2 := htw (u_lay RX11 TX11 2) (jWc_wsX110 _ (u_in_lay (by decide)))
  have hly_13_4 := htw (u_lay RX11 TX11 4) (jWc_wsX110 _ (u_in_lay (by decide)))
  have hly_13_11 := htw (u_lay RX11 TX11 11) (jWc_wsX110 _ (u_in_lay (by decide)))
  have hlk_28 := (htw (.fieldLink RX11 28 "ProofServer" "json" "LProofServer$Json;") (jWr_1 _ (List.mem_of_getElem? (i := 23) rfl)))
  obtain ⟨str281, rstr281, hstr2810⟩ := hG.str (o := RX11) (k := 281) (tx := "method") (List.mem_of_getElem? (i := 859) (by decide +kernel))
  have hstr281 : jStr base str281 6 s s.heap := hstr2810
  obtain ⟨str287, rstr287, hstr2870⟩ := hG.str (o := RX11) (k := 287) (tx := qtx865) (List.mem_of_getElem? (i := 865) (by decide +kernel))
  have h9str287 : qtx865.length = 10 := by decide +kernel
  have hstr287 : jStr base str287 10 s s.heap := by rw [h9str287] at hstr2870; exact hstr2870
  have hlk_77 := (htw (.fieldLink RX11 77 "ProofServer" "phase" "I") (jWr_2 _ (List.mem_of_getElem? (i := 19) rfl)))
  obtain ⟨str289, rstr289, hstr2890⟩ := hG.str (o := RX11) (k := 289) (tx := ",\"result\":") (List.mem_of_getElem? (i := 866) (by decide +kernel))
  have hstr289 : jStr base str289 10 s s.heap := hstr2890
  have hlk_35 := (htw (.fieldLink RX11 35 "ProofServer" "body" "LProofServer$Bytes;") (jWr_2 _ (List.mem_of_getElem? (i := 1) rfl)))
  obtain ⟨str295, rstr295, hstr2950⟩ := hG.str (o := RX11) (k := 295) (tx := "{\"capabilities\":{\"textDocumentSync\":2}}}") (List.mem_of_getElem? (i := 867) (by decide +kernel))
  have hstr295 : jStr base str295 40 s s.heap := hstr2950
  obtain ⟨str303, rstr303, hstr3030⟩ := hG.str (o := RX11) (k := 303) (tx := "shutdown") (List.mem_of_getElem? (i := 868) (by decide +kernel))
  have hstr303 : jStr base str303 8 s s.heap := hstr3030
  obtain ⟨str305, rstr305, hstr3050⟩ := hG.str (o := RX11) (k := 305) (tx := "null}") (List.mem_of_getElem? (i := 869) (by decide +kernel))
  have hstr305 : jStr base str305 5 s s.heap := hstr3050
  obtain ⟨str307, rstr307, hstr3070⟩ := hG.str (o := RX11) (k := 307) (tx := "proof/goals") (List.mem_of_getElem? (i := 870) (by decide +kernel))
  have hstr307 : jStr base str307 11 s s.heap := hstr3070
  obtain ⟨str317, rstr317, hstr3170⟩ := hG.str (o := RX11) (k := 317) (tx := "proof/statement") (List.mem_of_getElem? (i := 1083) (by decide +kernel))
  have hstr317 : jStr base str317 15 s s.heap := hstr3170
  have hbs : base ≤ s.heap.size := Nat.le_of_lt (Nat.lt_of_le_of_lt (hh.ab hg_r0).1 (hh.ab hg_r0).2)
  have hRc : R.cells = LC - s.heap.size := by rw [← hR]; rfl
  have hRs : R.slots = LS - jTot s.heap := by rw [← hR]; rfl
  have hh_1 := hh.addI (jOl.ie (dC := dC) (dI := dI) (G0 := G0) (k := 2) (rs := [bo, ou]) (H0 := s.heap) (F := [(2, 0), (2, 1)]) (C := RX0) (T := TX0) (N := 2) rfl (by decide) hh.2.2.2.2.1 (jOl.rf))
  clear hh
  refine lv_aload_n hx hb dX11_request_0 rfl (lv_at hl 0 rfl) ?_
  refine j7_read hx hb hown hK (C := RX11) (T := TX11) (N := 19) rfl hly_13_2 hlk_28 (hh_1.at 4 rfl) dX11_request_1 ?_
  refine lv_iconst (v := 0) hx hb dX11_request_4 (by decide) ?_
  refine j_ldcSw hx hb hown rstr281 dX11_request_5 ?_
  have hsz_2 := hh_1.2.2.2.2.2.1
  have htt_2 := hh_1.2.2.2.2.2.2.1
  refine W.room (fun hrc_2 hrs_2 => ?_)
  refine va_calli (A0 := jA base) (H0 := s.heap) (va_runV (As := [.int 0, .ref str281]) (rest := []) ⟨hx, hb, hml, hown, hts⟩ (uX4_memberQ l dC dI ca base B hB hAp hB6 hB140 hB141 hB142 hB143 hB144 hB145 hB146 G0 s.heap js 0 str281 6 pv wk wi wz jks fk fi fz fs) (cwV 2 hts (jgV (jWr_23 _ (List.mem_of_getElem? (i := 10) rfl)) (jWr_23 _ (List.mem_of_getElem? (i := 11) rfl)) (jWr_23 _ (List.mem_of_getElem? (i := 12) rfl)) (jWr_1 _ (List.mem_of_getElem? (i := 22) rfl)) (jWr_23 _ (List.mem_of_getElem? (i := 13) rfl))) rfl rfl rfl (by decide +kernel) ⟨by rw [← hR]; exact Nat.le_of_ble_eq_true rfl, by rw [← hR]; exact Nat.le_of_ble_eq_true rfl⟩) ⟨fun a U g mk q => by obtain ⟨q0, q1, q2, qK, q10, q11, q12, q13, q14, q15, q16, q17, q18⟩ := q; exact ⟨q0, q1, q2, jG.calling g mk a qK, (q10.moved (Vm.Alike.refl U.vm)), q11, q12, q13, q14, q15, q16, q17, q18⟩, hh_1.recv (C := RX4) (T := TX4) (N := 12) hB6 rfl (by decide) hg_js hK, fun U hU hW => ⟨rfl, hU, hh_1.2.1, hG.step hW hU hh_1.1, (hstr281.moved hW.alike).kept hh_1.1.2.1, hg_js, hg_wk, hg_wi, hg_wz, hg_jks, (hh_1.2.2.1.sub (L1 := [(js, 6, 7, .int pv), (js, 6, 0, .ref wk), (js, 6, 1, .ref wi), (js, 6, 2, .ref wz), (js, 6, 5, .ref jks)]) [5, 7, 8, 9, 10] rfl), (hh_1.2.2.2.2.2.2.2.1.sub (L1 := [(wk, 140, 1502, ca 1, fk), (wi, 141, 1502, ca 1, fi), (wz, 142, 1502, ca 1, fz), (jks, 145, 1502, ca 1, fs)]) [0, 1, 2, 3] rfl), ⟨(by first | omega | rfl | assumption | fail), (by first | omega | rfl | assumption | fail), (by first | omega | rfl | assumption | fail)⟩⟩⟩ rfl rfl hl.1 rfl (lv_room (Nat.le_of_ble_eq_true rfl)) dX11_request_8 ⟨by rw [hRc]; show _ + 0 ≤ _; omega, by rw [hRs]; show _ + 0 ≤ _; omega⟩) hh_1.1 (fun q _ h => h) (fun q h => h) (fun r_3 u_2 t_2 H_2 locs_2 ht_2 hvm_2 hr_3 hb_2 hz_2 hk_2 hS_2 => ?_)
  rw [ht_2] at hb_2
  obtain ⟨hb_2, hbF_2⟩ := hb_2
  obtain ⟨hb_21, hb_22, hb_23, hb_24, hb_25⟩ := hb_2
  have hh_2 : jSt (dC, dI) B base G0 G0 EX11_request s.heap 0 0 [(r0, 13, 4, .ref bo), (bo, 2, 1, .int pc), (bo, 2, 0, .ref pa), (r0, 13, 3, .ref ou), (r0, 13, 2, .ref js), (js, 6, 7, .int pv), (js, 6, 8, .int pu), (js, 6, 0, .ref wk), (js, 6, 1, .ref wi), (js, 6, 2, .ref wz), (js, 6, 5, .ref jks)] [(wk, 140, 1502, ca 1, fk), (wi, 141, 1502, ca 1, fi), (wz, 142, 1502, ca 1, fz), (jks, 145, 1502, ca 1, fs)] [([(2, 0), (2, 1)], jOl (dC, dI) G0 2 [bo, ou] s.heap), (jFy, jYb dC dI G0), (jFs11, jSef dC dI G0), (jFl, jLs dC dI ca G0 3 none)] H_2 locs_2 := ((hh_1.call hb_21 hb_22 hb_23 hb_24 hS_2 rfl (L1 := [(r0, 13, 4, .ref bo), (bo, 2, 1, .int pc), (bo, 2, 0, .ref pa), (r0, 13, 3, .ref ou), (r0, 13, 2, .ref js), (js, 6, 7, .int pv), (js, 6, 8, .int pu), (js, 6, 0, .ref wk), (js, 6, 1, .ref wi), (js, 6, 2, .ref wz), (js, 6, 5, .ref jks)]) [0, 1, 2, 3, 4, 5, 6, 7, 8, 9, 10] rfl rfl (M1 := [(wk, 140, 1502, ca 1, fk), (wi, 141, 1502, ca 1, fi), (wz, 142, 1502, ca 1, fz), (jks, 145, 1502, ca 1, fs)]) [0, 1, 2, 3] rfl rfl (I1 := [([(2, 0), (2, 1)], jOl (dC, dI) G0 2 [bo, ou] s.heap), (jFy, jYb dC dI G0), (jFs11, jSef dC dI G0), (jFl, jLs dC dI ca G0 3 none)]) [0, 1, 2, 3] rfl rfl).more hb_25)
  clear hh_1 ht_2 hvm_2 hz_2 hk_2 hS_2 hb_21 hb_22 hb_23 hb_24 hb_25
  obtain ⟨hr_3_0, hr_3_1, hr_3_2⟩ := hr_3
  refine lv_istore_n (lv' := [(2, .int r_3), (0, .ref r0), (1, .ref r1)]) hx hb dX11_request_11 rfl hl (by decide) rfl (fun ls hl => ?_)
  refine lv_aload_n hx hb dX11_request_12 rfl (lv_at hl 1 rfl) ?_
  refine j7_read hx hb hown hK (C := RX11) (T := TX11) (N := 19) rfl hly_13_2 hlk_28 (hh_2.at 4 rfl) dX11_request_13 ?_
  refine lv_iload_n hx hb dX11_request_16 rfl (lv_at hl 0 rfl) ?_
  refine j_ldcSw hx hb hown rstr287 dX11_request_17 ?_
  have hsz_4 := hh_2.2.2.2.2.2.1
  have htt_4 := hh_2.2.2.2.2.2.2.1
  refine W.room (fun hrc_4 hrs_4 => ?_)
  refine va_calli (A0 := jA base) (H0 := s.heap) (va_runV (As := [.int r_3, .ref str287]) (rest := []) ⟨hx, hb, hml, hown, hts⟩ (uX4_isTextQ l dC dI ca base B hB hAp hB6 hB140 hB141 hB142 hB146 G0 H_2 js r_3 str287 10 pv wk wi wz fk fi fz) (cwV 2 hts (jgV (jWr_27 _ (List.mem_of_getElem? (i := 1) rfl)) (jWr_27 _ (List.mem_of_getElem? (i := 2) rfl)) (jWr_27 _ (List.mem_of_getElem? (i := 3) rfl)) (jWr_1 _ (List.mem_of_getElem? (i := 22) rfl)) (jWr_27 _ (List.mem_of_getElem? (i := 4) rfl))) rfl rfl rfl (by decide +kernel) ⟨by rw [← hR]; exact Nat.le_of_ble_eq_true rfl, by rw [← hR]; exact Nat.le_of_ble_eq_true rfl⟩) ⟨fun a U g mk q => by obtain ⟨q0, q1, q2, qK, q10, q11, q12, q13, q14, q15, q16, q17⟩ := q; exact ⟨q0, q1, q2, jG.calling g mk a qK, (q10.moved (Vm.Alike.refl U.vm)), q11, q12, q13, q14, q15, q16, q17⟩, hh_2.recv (C := RX4) (T := TX4) (N := 12) hB6 rfl (by decide) hg_js hK, fun U hU hW => ⟨rfl, hU, hh_2.2.1, hG.step hW hU hh_2.1, (hstr287.moved hW.alike).kept hh_2.1.2.1, hg_js, hg_wk, hg_wi, hg_wz, (hh_2.2.2.1.sub (L1 := [(js, 6, 7, .int pv), (js, 6, 0, .ref wk), (js, 6, 1, .ref wi), (js, 6, 2, .ref wz)]) [5, 7, 8, 9] rfl), (hh_2.2.2.2.2.2.2.2.1.sub (L1 := [(wk, 140, 1502, ca 1, fk), (wi, 141, 1502, ca 1, fi), (wz, 142, 1502, ca 1, fz)]) [0, 1, 2] rfl), ⟨(by first | omega | rfl | assumption | fail), (by first | omega | rfl | assumption | fail), (by first | omega | rfl | assumption | fail), (by first | assumption | fail | omega)⟩⟩⟩ rfl rfl hl.1 rfl (lv_room (Nat.le_of_ble_eq_true rfl)) dX11_request_20 ⟨by rw [hRc]; show _ + 0 ≤ _; omega, by rw [hRs]; show _ + 0 ≤ _; omega⟩) hh_2.1 (fun q _ h => h) (fun q h => h) (fun r_5 u_4 t_4 H_4 locs_4 ht_4 hvm_4 hr_5 hb_4 hz_4 hk_4 hS_4 => ?_)
  rw [ht_4] at hb_4
  obtain ⟨hb_4, hbF_4⟩ := hb_4
  obtain ⟨hb_41, hb_42, hb_43, hb_44, hb_45⟩ := hb_4
  have hh_4 : jSt (dC, dI) B base G0 G0 EX11_request s.heap 0 0 [(r0, 13, 4, .ref bo), (bo, 2, 1, .int pc), (bo, 2, 0, .ref pa), (r0, 13, 3, .ref ou), (r0, 13, 2, .ref js), (js, 6, 7, .int pv), (js, 6, 8, .int pu), (js, 6, 0, .ref wk), (js, 6, 1, .ref wi), (js, 6, 2, .ref wz), (js, 6, 5, .ref jks)] [(wk, 140, 1502, ca 1, fk), (wi, 141, 1502, ca 1, fi), (wz, 142, 1502, ca 1, fz), (jks, 145, 1502, ca 1, fs)] [([(2, 0), (2, 1)], jOl (dC, dI) G0 2 [bo, ou] s.heap), (jFy, jYb dC dI G0), (jFs11, jSef dC dI G0), (jFl, jLs dC dI ca G0 3 none)] H_4 locs_4 := ((hh_2.call hb_41 hb_42 hb_43 hb_44 hS_4 rfl (L1 := [(r0, 13, 4, .ref bo), (bo, 2, 1, .int pc), (bo, 2, 0, .ref pa), (r0, 13, 3, .ref ou), (r0, 13, 2, .ref js), (js, 6, 7, .int pv), (js, 6, 8, .int pu), (js, 6, 0, .ref wk), (js, 6, 1, .ref wi), (js, 6, 2, .ref wz), (js, 6, 5, .ref jks)]) [0, 1, 2, 3, 4, 5, 6, 7, 8, 9, 10] rfl rfl (M1 := [(wk, 140, 1502, ca 1, fk), (wi, 141, 1502, ca 1, fi), (wz, 142, 1502, ca 1, fz), (jks, 145, 1502, ca 1, fs)]) [0, 1, 2, 3] rfl rfl (I1 := [([(2, 0), (2, 1)], jOl (dC, dI) G0 2 [bo, ou] s.heap), (jFy, jYb dC dI G0), (jFs11, jSef dC dI G0), (jFl, jLs dC dI ca G0 3 none)]) [0, 1, 2, 3] rfl rfl).more hb_45)
  clear hh_2 ht_4 hvm_4 hz_4 hk_4 hS_4 hb_41 hb_42 hb_43 hb_44 hb_45
  obtain ⟨hr_5b, hr_5p⟩ := hr_5
  have hr_5' := jb_01 hr_5b
  refine lv_istore_n (lv' := [(3, .int r_5), (2, .int r_3), (0, .ref r0), (1, .ref r1)]) hx hb dX11_request_23 rfl hl (by decide) rfl (fun ls hl => ?_)
  refine lv_aload_n hx hb dX11_request_24 rfl (lv_at hl 2 rfl) ?_
  obtain ⟨v_6, hv_6, hh_7⟩ := hh_4.pin (C := RX11) (T := TX11) (N := 19) hB13 rfl (by decide) hg_r0 (i := 11) (by decide) rfl
  clear hh_4
  obtain ⟨phase_8, rfl, hlophase_8, hhiphase_8⟩ := hv_6
  refine j7_read hx hb hown hK (C := RX11) (T := TX11) (N := 19) rfl hly_13_11 hlk_77 (hh_7.at 0 rfl) dX11_request_25 ?_
  refine lv_if_ne (tgt := 65) hx hb dX11_request_28 (by decide) (fun c_9 => ?_) (fun c_9 => ?_)
  · skip
    have c_9' : phase_8.toInt ≠ 0 := jb_ne (rfl) ((by decide)) c_9
    refine lv_aload_n hx hb dX11_request_65 rfl (lv_at hl 2 rfl) ?_
    refine j7_read hx hb hown hK (C := RX11) (T := TX11) (N := 19) rfl hly_13_11 hlk_77 (hh_7.at 0 rfl) dX11_request_66 ?_
    refine lv_if_ne (tgt := 83) hx hb dX11_request_69 (by decide) (fun c_10 => ?_) (fun c_10 => ?_)
    · skip
      have c_10' : phase_8.toInt ≠ 0 := jb_ne (rfl) ((by decide)) c_10
      refine lv_aload_n hx hb dX11_request_83 rfl (lv_at hl 2 rfl) ?_
      refine j7_read hx hb hown hK (C := RX11) (T := TX11) (N := 19) rfl hly_13_11 hlk_77 (hh_7.at 0 rfl) dX11_request_84 ?_
      refine lv_iconst (v := 2) hx hb dX11_request_87 (by decide) ?_
      refine lv_icmp_eq (tgt := 95) hx hb dX11_request_88 (by decide) (fun c_11 => ?_) (fun c_11 => ?_)
      · skip
        have c_11' : phase_8.toInt = 2 := jb_eq (rfl) ((by decide)) c_11
        refine lv_aload_n hx hb dX11_request_95 rfl (lv_at hl 2 rfl) ?_
        refine lv_aload_n hx hb dX11_request_96 rfl (lv_at hl 3 rfl) ?_
        refine lv_sipush (v := (-32600)) hx hb dX11_request_97 (by decide) ?_
        have hsz_12 := hh_7.2.2.2.2.2.1
        have htt_12 := hh_7.2.2.2.2.2.2.1
        refine W.room (fun hrc_12 hrs_12 => ?_)
        refine va_callv (A0 := jA base) (H0 := s.heap) (va_runV (As := [.ref r1, .int (-32600)]) (rest := []) ⟨hx, hb, hml, hown, hts⟩ (uX11_refuse l dC dI ca base B hB hAp hB2 hB4 hB10 hB13 hB196 G0 H_4 r0 r1 (-32600) bo pc pa n_pa ou LC LS) (cwV 2 hts (jgV (jWr_26 _ (List.mem_of_getElem? (i := 3) rfl)) (jWr_26 _ (List.mem_of_getElem? (i := 4) rfl)) (jWr_26 _ (List.mem_of_getElem? (i := 5) rfl)) (jWr_1 _ (List.mem_of_getElem? (i := 2) rfl)) (jWr_26 _ (List.mem_of_getElem? (i := 6) rfl))) rfl rfl rfl (by decide +kernel) ⟨by rw [← hR]; exact Nat.le_of_ble_eq_true rfl, by rw [← hR]; exact Nat.le_of_ble_eq_true rfl⟩) ⟨fun a U g mk q => by obtain ⟨q0, q1, q2, qK, q10, q11, q12, q13, q14, q15, q16, q17⟩ := q; exact ⟨q0, q1, q2, jG.calling g mk a qK, q10, q11, q12, q13, q14, q15, q16, q17⟩, hh_7.recv (C := RX11) (T := TX11) (N := 19) hB13 rfl (by decide) hg_r0 hK, fun U hU hW => ⟨rfl, hU, hh_7.2.1, hG.step hW hU hh_7.1, hg_r1, hg_r0, hg_bo, hg_pa, hg_ou, (hh_7.2.2.1.sub (L1 := [(r0, 13, 4, .ref bo), (bo, 2, 1, .int pc), (bo, 2, 0, .ref pa), (r0, 13, 3, .ref ou)]) [1, 2, 3, 4] rfl), (hh_7.2.2.2.2.2.2.2.2.sub (L1 := [(jFy, jYb dC dI G0)]) [1] rfl), (by omega), (by omega), ⟨(by first | omega | rfl | assumption | fail), (by first | omega | rfl | assumption | fail), (by first | omega | rfl | assumption | fail), (by first | omega | rfl | assumption | fail), (by first | assumption | fail | omega)⟩⟩⟩ rfl rfl hl.1 rfl (lv_room (Nat.le_of_ble_eq_true rfl)) dX11_request_100 ⟨by rw [hRc]; omega, by rw [hRs]; omega⟩) hh_7.1 (fun q _ h => h) (fun q h => h) (fun u_12 t_12 H_12 locs_12 ht_12 hvm_12 hr_13 hb_12 hz_12 hk_12 hS_12 => ?_)
        obtain ⟨qc_12, qa_12, m_qa_12, G_12⟩ := u_12
        rw [ht_12] at hb_12
        simp only at hb_12
        obtain ⟨⟨hb_121, hb_122, hb_123, hb_124, hb_125, hb_126⟩, hgq_12_0, hN_12, hbO_12, hbE_12⟩ := hb_12
        have hh_12 : jSt (dC, dI) B base G0 G_12 EX11_request s.heap (0 + ((m_qa_12 - n_pa) / 16)) (0 + (2 * (m_qa_12 - n_pa))) [(bo, 2, 1, .int qc_12), (bo, 2, 0, .ref qa_12), (r0, 13, 11, .int phase_8), (r0, 13, 4, .ref bo), (r0, 13, 3, .ref ou), (r0, 13, 2, .ref js), (js, 6, 7, .int pv), (js, 6, 8, .int pu), (js, 6, 0, .ref wk), (js, 6, 1, .ref wi), (js, 6, 2, .ref wz), (js, 6, 5, .ref jks)] [(wk, 140, 1502, ca 1, fk), (wi, 141, 1502, ca 1, fi), (wz, 142, 1502, ca 1, fz), (jks, 145, 1502, ca 1, fs)] [(jFs11, jSef dC dI G0), (jFl, jLs dC dI ca G0 3 none)] H_12 locs_12 := (hh_7.callG hb_121 hb_122 hb_123 hb_124 hb_125 hS_12 rfl (L1 := [(r0, 13, 11, .int phase_8), (r0, 13, 4, .ref bo), (r0, 13, 3, .ref ou), (r0, 13, 2, .ref js), (js, 6, 7, .int pv), (js, 6, 8, .int pu), (js, 6, 0, .ref wk), (js, 6, 1, .ref wi), (js, 6, 2, .ref wz), (js, 6, 5, .ref jks)]) [0, 1, 4, 5, 6, 7, 8, 9, 10, 11] rfl rfl (M1 := [(wk, 140, 1502, ca 1, fk), (wi, 141, 1502, ca 1, fi), (wz, 142, 1502, ca 1, fz), (jks, 145, 1502, ca 1, fs)]) [0, 1, 2, 3] rfl rfl (I1 := [(jFs11, jSef dC dI G0), (jFl, jLs dC dI ca G0 3 none)]) [2, 3] rfl rfl).more hb_126
        have hNn_12 : (jNk [0, 1, 2, 3, 4, 5, 6, 7, 8, 9, 10, 11, 12, 13, 14, 15, 16]) G0 G_12 := (jNk.rf).tr hN_12
        have hg_14 := hb_122 _ _ hg_r0
        have hg_15 := hb_122 _ _ hg_r1
        have hg_16 := hb_122 _ _ hg_bo
        have hg_17 := hb_122 _ _ hg_ou
        have hg_18 := hb_122 _ _ hg_js
        have hg_19 := hb_122 _ _ hg_wk
        have hg_20 := hb_122 _ _ hg_wi
        have hg_21 := hb_122 _ _ hg_wz
        have hg_22 := hb_122 _ _ hg_jks
        have hd_23 := jSef.grow (hh_12.iv 0 rfl) hb_122 hN_12 (by decide)
        have hh_24 := hh_12.sub (L1 := [(bo, 2, 1, .int qc_12), (bo, 2, 0, .ref qa_12), (r0, 13, 11, .int phase_8), (r0, 13, 4, .ref bo), (r0, 13, 3, .ref ou), (r0, 13, 2, .ref js), (js, 6, 7, .int pv), (js, 6, 8, .int pu), (js, 6, 0, .ref wk), (js, 6, 1, .ref wi), (js, 6, 2, .ref wz), (js, 6, 5, .ref jks)]) [0, 1, 2, 3, 4, 5, 6, 7, 8, 9, 10, 11] rfl (M1 := [(wk, 140, 1502, ca 1, fk), (wi, 141, 1502, ca 1, fi), (wz, 142, 1502, ca 1, fz), (jks, 145, 1502, ca 1, fs)]) [0, 1, 2, 3] rfl (I1 := [(jFl, jLs dC dI ca G0 3 none)]) [1] rfl
        clear hh_12
        have hh_25 := hh_24.addI (jSef.ie hd_23)
        clear hh_24
        have hd_26 := jLs.grow (hh_25.iv 1 rfl) hb_122 hN_12 (by decide)
        have hh_27 := hh_25.sub (L1 := [(bo, 2, 1, .int qc_12), (bo, 2, 0, .ref qa_12), (r0, 13, 11, .int phase_8), (r0, 13, 4, .ref bo), (r0, 13, 3, .ref ou), (r0, 13, 2, .ref js), (js, 6, 7, .int pv), (js, 6, 8, .int pu), (js, 6, 0, .ref wk), (js, 6, 1, .ref wi), (js, 6, 2, .ref wz), (js, 6, 5, .ref jks)]) [0, 1, 2, 3, 4, 5, 6, 7, 8, 9, 10, 11] rfl (M1 := [(wk, 140, 1502, ca 1, fk), (wi, 141, 1502, ca 1, fi), (wz, 142, 1502, ca 1, fz), (jks, 145, 1502, ca 1, fs)]) [0, 1, 2, 3] rfl (I1 := [(jFs11, jSef dC dI G_12)]) [0] rfl
        clear hh_25
        have hh_28 := hh_27.addI (jLs.ie hd_26)
        clear hh_27
        have hh_29 := hh_28.addIs hbE_12
        have hd_30 := jOl.trL (hh_7.iv 0 rfl) hh_7.2.2.2.2.1 hbO_12 (by simp)
        have hh_31 := hh_29.addI (jOl.ie (dC := dC) (dI := dI) (G0 := G0) (k := 2) (rs := [bo, ou]) (H0 := s.heap) (F := [(2, 0), (2, 1)]) (C := RX0) (T := TX0) (N := 2) rfl (by decide) hh_29.2.2.2.2.1 (hd_30))
        clear hh_29
        try simp only at hr_13
        obtain ⟨hr_13_0, hr_13_1, hr_13_2, hr_13_3, hr_13_4⟩ := hr_13
        have hh_32 := hh_31.wk (zc1 := (m_qa_12 - n_pa) / 16 + 2) (zs1 := 2 * (m_qa_12 - n_pa) + 40 + pu.toInt.toNat) (by omega) (by omega)
        clear hh_31
        try clear hsz_12 htt_12 hrc_12 hrs_12
        try clear hb_124 hb_125
        refine lv_goto (tgt := 212) hx hb dX11_request_103 (by decide) ?_
        have hsz_33 := hh_32.2.2.2.2.2.1
        have htt_33 := hh_32.2.2.2.2.2.2.1
        refine W.room (fun hrc_33 hrs_33 => ?_)
        refine W.widen (k := LC - s.heap.size) (n := LS - jTot s.heap) (by omega) (by omega) ?_
        rw [hQ]
        exact W.vret hx hb hr (fun t ht hW => ⟨⟨(qc_12, qa_12, m_qa_12, G_12), rfl, by (try dsimp only); exact ⟨(by first | omega | rfl | assumption | fail), (by first | omega | rfl | assumption | fail), (by first | omega | rfl | assumption | fail), (by first | omega | rfl | assumption | fail), (by first | assumption | fail | omega)⟩, ⟨hh_32.ra (by first | omega | (simp only; omega)) (by first | omega | (simp only; omega)) (M1 := [(bo, 2, 1, .int qc_12), (bo, 2, 0, .ref qa_12)]) [0, 1] rfl ht, hgq_12_0, hNn_12, by rw [ht]; exact hh_32.iv 0 rfl, by rw [ht]; exact hh_32.2.2.2.2.2.2.2.2.sub (L1 := [(jFy, jYb dC dI G_12), (jFs11, jSef dC dI G_12), (jFl, jLs dC dI ca G_12 3 none)]) [1, 3, 2] rfl⟩⟩, by rw [ht]; try exact hh_32.1.1, fun q h9 hq => by rw [ht]; try exact hh_32.1.2.1 q h9 hq⟩) hh_32.1.2.2 dX11_request_212
      · skip
        have c_11' : phase_8.toInt ≠ 2 := jb_eq_n (rfl) ((by decide)) c_11
        refine lv_iload_n hx hb dX11_request_91 rfl (lv_at hl 0 rfl) ?_
        refine lv_if_eq (tgt := 106) hx hb dX11_request_92 (by decide) (fun c_34 => ?_) (fun c_34 => ?_)
        · skip
          have c_34' : r_5.toInt = 0 := jb_eq (rfl) ((by decide)) c_34
          first | (have hr_3_2q := hr_3_2.resolve_left (by omega); clear hr_3_2) | (have hr_3_2q := hr_3_2.resolve_right (by omega); clear hr_3_2) | skip
          first | (have hr_5pq := hr_5p.resolve_left (by omega); clear hr_5p) | (have hr_5pq := hr_5p.resolve_right (by omega); clear hr_5p) | skip
          refine lv_aload_n hx hb dX11_request_106 rfl (lv_at hl 2 rfl) ?_
          refine j7_read hx hb hown hK (C := RX11) (T := TX11) (N := 19) rfl hly_13_2 hlk_28 (hh_7.at 5 rfl) dX11_request_107 ?_
          refine lv_iload_n hx hb dX11_request_110 rfl (lv_at hl 1 rfl) ?_
          refine j_ldcSw hx hb hown rstr303 dX11_request_111 ?_
          have hsz_35 := hh_7.2.2.2.2.2.1
          have htt_35 := hh_7.2.2.2.2.2.2.1
          refine W.room (fun hrc_35 hrs_35 => ?_)
          refine va_calli (A0 := jA base) (H0 := s.heap) (va_runV (As := [.int r_3, .ref str303]) (rest := []) ⟨hx, hb, hml, hown, hts⟩ (uX4_isTextQ l dC dI ca base B hB hAp hB6 hB140 hB141 hB142 hB146 G0 H_4 js r_3 str303 8 pv wk wi wz fk fi fz) (cwV 2 hts (jgV (jWr_27 _ (List.mem_of_getElem? (i := 1) rfl)) (jWr_27 _ (List.mem_of_getElem? (i := 2) rfl)) (jWr_27 _ (List.mem_of_getElem? (i := 3) rfl)) (jWr_1 _ (List.mem_of_getElem? (i := 22) rfl)) (jWr_27 _ (List.mem_of_getElem? (i := 4) rfl))) rfl rfl rfl (by decide +kernel) ⟨by rw [← hR]; exact Nat.le_of_ble_eq_true rfl, by rw [← hR]; exact Nat.le_of_ble_eq_true rfl⟩) ⟨fun a U g mk q => by obtain ⟨q0, q1, q2, qK, q10, q11, q12, q13, q14, q15, q16, q17⟩ := q; exact ⟨q0, q1, q2, jG.calling g mk a qK, (q10.moved (Vm.Alike.refl U.vm)), q11, q12, q13, q14, q15, q16, q17⟩, hh_7.recv (C := RX4) (T := TX4) (N := 12) hB6 rfl (by decide) hg_js hK, fun U hU hW => ⟨rfl, hU, hh_7.2.1, hG.step hW hU hh_7.1, (hstr303.moved hW.alike).kept hh_7.1.2.1, hg_js, hg_wk, hg_wi, hg_wz, (hh_7.2.2.1.sub (L1 := [(js, 6, 7, .int pv), (js, 6, 0, .ref wk), (js, 6, 1, .ref wi), (js, 6, 2, .ref wz)]) [6, 8, 9, 10] rfl), (hh_7.2.2.2.2.2.2.2.1.sub (L1 := [(wk, 140, 1502, ca 1, fk), (wi, 141, 1502, ca 1, fi), (wz, 142, 1502, ca 1, fz)]) [0, 1, 2] rfl), ⟨(by first | omega | rfl | assumption | fail), (by first | omega | rfl | assumption | fail), (by first | omega | rfl | assumption | fail), (by first | assumption | fail | omega)⟩⟩⟩ rfl rfl hl.1 rfl (lv_room (Nat.le_of_ble_eq_true rfl)) dX11_request_114 ⟨by rw [hRc]; show _ + 0 ≤ _; omega, by rw [hRs]; show _ + 0 ≤ _; omega⟩) hh_7.1 (fun q _ h => h) (fun q h => h) (fun r_36 u_35 t_35 H_35 locs_35 ht_35 hvm_35 hr_36 hb_35 hz_35 hk_35 hS_35 => ?_)
          rw [ht_35] at hb_35
          obtain ⟨hb_35, hbF_35⟩ := hb_35
          obtain ⟨hb_351, hb_352, hb_353, hb_354, hb_355⟩ := hb_35
          have hh_35 : jSt (dC, dI) B base G0 G0 EX11_request s.heap 0 0 [(r0, 13, 11, .int phase_8), (r0, 13, 4, .ref bo), (bo, 2, 1, .int pc), (bo, 2, 0, .ref pa), (r0, 13, 3, .ref ou), (r0, 13, 2, .ref js), (js, 6, 7, .int pv), (js, 6, 8, .int pu), (js, 6, 0, .ref wk), (js, 6, 1, .ref wi), (js, 6, 2, .ref wz), (js, 6, 5, .ref jks)] [(wk, 140, 1502, ca 1, fk), (wi, 141, 1502, ca 1, fi), (wz, 142, 1502, ca 1, fz), (jks, 145, 1502, ca 1, fs)] [([(2, 0), (2, 1)], jOl (dC, dI) G0 2 [bo, ou] s.heap), (jFy, jYb dC dI G0), (jFs11, jSef dC dI G0), (jFl, jLs dC dI ca G0 3 none)] H_35 locs_35 := ((hh_7.call hb_351 hb_352 hb_353 hb_354 hS_35 rfl (L1 := [(r0, 13, 11, .int phase_8), (r0, 13, 4, .ref bo), (bo, 2, 1, .int pc), (bo, 2, 0, .ref pa), (r0, 13, 3, .ref ou), (r0, 13, 2, .ref js), (js, 6, 7, .int pv), (js, 6, 8, .int pu), (js, 6, 0, .ref wk), (js, 6, 1, .ref wi), (js, 6, 2, .ref wz), (js, 6, 5, .ref jks)]) [0, 1, 2, 3, 4, 5, 6, 7, 8, 9, 10, 11] rfl rfl (M1 := [(wk, 140, 1502, ca 1, fk), (wi, 141, 1502, ca 1, fi), (wz, 142, 1502, ca 1, fz), (jks, 145, 1502, ca 1, fs)]) [0, 1, 2, 3] rfl rfl (I1 := [([(2, 0), (2, 1)], jOl (dC, dI) G0 2 [bo, ou] s.heap), (jFy, jYb dC dI G0), (jFs11, jSef dC dI G0), (jFl, jLs dC dI ca G0 3 none)]) [0, 1, 2, 3] rfl rfl).more hb_355)
          clear hh_7 ht_35 hvm_35 hz_35 hk_35 hS_35 hb_351 hb_352 hb_353 hb_354 hb_355
          obtain ⟨hr_36b, hr_36p⟩ := hr_36
          have hr_36' := jb_01 hr_36b
          refine lv_if_eq (tgt := 150) hx hb dX11_request_117 (by decide) (fun c_37 => ?_) (fun c_37 => ?_)
          · skip
            have c_37' : r_36.toInt = 0 := jb_eq (rfl) ((by decide)) c_37
            first | (have hr_3_2q := hr_3_2.resolve_left (by omega); clear hr_3_2) | (have hr_3_2q := hr_3_2.resolve_right (by omega); clear hr_3_2) | skip
            first | (have hr_5pq := hr_5p.resolve_left (by omega); clear hr_5p) | (have hr_5pq := hr_5p.resolve_right (by omega); clear hr_5p) | skip
            first | (have hr_36pq := hr_36p.resolve_left (by omega); clear hr_36p) | (have hr_36pq := hr_36p.resolve_right (by omega); clear hr_36p) | try clear hr_36p
            refine lv_aload_n hx hb dX11_request_150 rfl (lv_at hl 2 rfl) ?_
            refine j7_read hx hb hown hK (C := RX11) (T := TX11) (N := 19) rfl hly_13_2 hlk_28 (hh_35.at 5 rfl) dX11_request_151 ?_
            refine lv_iload_n hx hb dX11_request_154 rfl (lv_at hl 1 rfl) ?_
            refine j_ldcSw hx hb hown rstr307 dX11_request_155 ?_
            have hsz_38 := hh_35.2.2.2.2.2.1
            have htt_38 := hh_35.2.2.2.2.2.2.1
            refine W.room (fun hrc_38 hrs_38 => ?_)
            refine va_calli (A0 := jA base) (H0 := s.heap) (va_runV (As := [.int r_3, .ref str307]) (rest := []) ⟨hx, hb, hml, hown, hts⟩ (uX4_isTextQ l dC dI ca base B hB hAp hB6 hB140 hB141 hB142 hB146 G0 H_35 js r_3 str307 11 pv wk wi wz fk fi fz) (cwV 2 hts (jgV (jWr_27 _ (List.mem_of_getElem? (i := 1) rfl)) (jWr_27 _ (List.mem_of_getElem? (i := 2) rfl)) (jWr_27 _ (List.mem_of_getElem? (i := 3) rfl)) (jWr_1 _ (List.mem_of_getElem? (i := 22) rfl)) (jWr_27 _ (List.mem_of_getElem? (i := 4) rfl))) rfl rfl rfl (by decide +kernel) ⟨by rw [← hR]; exact Nat.le_of_ble_eq_true rfl, by rw [← hR]; exact Nat.le_of_ble_eq_true rfl⟩) ⟨fun a U g mk q => by obtain ⟨q0, q1, q2, qK, q10, q11, q12, q13, q14, q15, q16, q17⟩ := q; exact ⟨q0, q1, q2, jG.calling g mk a qK, (q10.moved (Vm.Alike.refl U.vm)), q11, q12, q13, q14, q15, q16, q17⟩, hh_35.recv (C := RX4) (T := TX4) (N := 12) hB6 rfl (by decide) hg_js hK, fun U hU hW => ⟨rfl, hU, hh_35.2.1, hG.step hW hU hh_35.1, (hstr307.moved hW.alike).kept hh_35.1.2.1, hg_js, hg_wk, hg_wi, hg_wz, (hh_35.2.2.1.sub (L1 := [(js, 6, 7, .int pv), (js, 6, 0, .ref wk), (js, 6, 1, .ref wi), (js, 6, 2, .ref wz)]) [6, 8, 9, 10] rfl), (hh_35.2.2.2.2.2.2.2.1.sub (L1 := [(wk, 140, 1502, ca 1, fk), (wi, 141, 1502, ca 1, fi), (wz, 142, 1502, ca 1, fz)]) [0, 1, 2] rfl), ⟨(by first | omega | rfl | assumption | fail), (by first | omega | rfl | assumption | fail), (by first | omega | rfl | assumption | fail), (by first | assumption | fail | omega)⟩⟩⟩ rfl rfl hl.1 rfl (lv_room (Nat.le_of_ble_eq_true rfl)) dX11_request_158 ⟨by rw [hRc]; show _ + 0 ≤ _; omega, by rw [hRs]; show _ + 0 ≤ _; omega⟩) hh_35.1 (fun q _ h => h) (fun q h => h) (fun r_39 u_38 t_38 H_38 locs_38 ht_38 hvm_38 hr_39 hb_38 hz_38 hk_38 hS_38 => ?_)
            rw [ht_38] at hb_38
            obtain ⟨hb_38, hbF_38⟩ := hb_38
            obtain ⟨hb_381, hb_382, hb_383, hb_384, hb_385⟩ := hb_38
            have hh_38 : jSt (dC, dI) B base G0 G0 EX11_request s.heap 0 0 [(r0, 13, 11, .int phase_8), (r0, 13, 4, .ref bo), (bo, 2, 1, .int pc), (bo, 2, 0, .ref pa), (r0, 13, 3, .ref ou), (r0, 13, 2, .ref js), (js, 6, 7, .int pv), (js, 6, 8, .int pu), (js, 6, 0, .ref wk), (js, 6, 1, .ref wi), (js, 6, 2, .ref wz), (js, 6, 5, .ref jks)] [(wk, 140, 1502, ca 1, fk), (wi, 141, 1502, ca 1, fi), (wz, 142, 1502, ca 1, fz), (jks, 145, 1502, ca 1, fs)] [([(2, 0), (2, 1)], jOl (dC, dI) G0 2 [bo, ou] s.heap), (jFy, jYb dC dI G0), (jFs11, jSef dC dI G0), (jFl, jLs dC dI ca G0 3 none)] H_38 locs_38 := ((hh_35.call hb_381 hb_382 hb_383 hb_384 hS_38 rfl (L1 := [(r0, 13, 11, .int phase_8), (r0, 13, 4, .ref bo), (bo, 2, 1, .int pc), (bo, 2, 0, .ref pa), (r0, 13, 3, .ref ou), (r0, 13, 2, .ref js), (js, 6, 7, .int pv), (js, 6, 8, .int pu), (js, 6, 0, .ref wk), (js, 6, 1, .ref wi), (js, 6, 2, .ref wz), (js, 6, 5, .ref jks)]) [0, 1, 2, 3, 4, 5, 6, 7, 8, 9, 10, 11] rfl rfl (M1 := [(wk, 140, 1502, ca 1, fk), (wi, 141, 1502, ca 1, fi), (wz, 142, 1502, ca 1, fz), (jks, 145, 1502, ca 1, fs)]) [0, 1, 2, 3] rfl rfl (I1 := [([(2, 0), (2, 1)], jOl (dC, dI) G0 2 [bo, ou] s.heap), (jFy, jYb dC dI G0), (jFs11, jSef dC dI G0), (jFl, jLs dC dI ca G0 3 none)]) [0, 1, 2, 3] rfl rfl).more hb_385)
            clear hh_35 ht_38 hvm_38 hz_38 hk_38 hS_38 hb_381 hb_382 hb_383 hb_384 hb_385
            obtain ⟨hr_39b, hr_39p⟩ := hr_39
            have hr_39' := jb_01 hr_39b
            refine lv_if_eq (tgt := 177) hx hb dX11_request_161 (by decide) (fun c_40 => ?_) (fun c_40 => ?_)
            · skip
              have c_40' : r_39.toInt = 0 := jb_eq (rfl) ((by decide)) c_40
              first | (have hr_3_2q := hr_3_2.resolve_left (by omega); clear hr_3_2) | (have hr_3_2q := hr_3_2.resolve_right (by omega); clear hr_3_2) | skip
              first | (have hr_5pq := hr_5p.resolve_left (by omega); clear hr_5p) | (have hr_5pq := hr_5p.resolve_right (by omega); clear hr_5p) | skip
              first | (have hr_39pq := hr_39p.resolve_left (by omega); clear hr_39p) | (have hr_39pq := hr_39p.resolve_right (by omega); clear hr_39p) | try clear hr_39p
              refine lv_aload_n hx hb dX11_request_177 rfl (lv_at hl 2 rfl) ?_
              refine j7_read hx hb hown hK (C := RX11) (T := TX11) (N := 19) rfl hly_13_2 hlk_28 (hh_38.at 5 rfl) dX11_request_178 ?_
              refine lv_iload_n hx hb dX11_request_181 rfl (lv_at hl 1 rfl) ?_
              refine j_ldcSw hx hb hown rstr317 dX11_request_182 ?_
              have hsz_41 := hh_38.2.2.2.2.2.1
              have htt_41 := hh_38.2.2.2.2.2.2.1
              refine W.room (fun hrc_41 hrs_41 => ?_)
              refine va_calli (A0 := jA base) (H0 := s.heap) (va_runV (As := [.int r_3, .ref str317]) (rest := []) ⟨hx, hb, hml, hown, hts⟩ (uX4_isTextQ l dC dI ca base B hB hAp hB6 hB140 hB141 hB142 hB146 G0 H_38 js r_3 str317 15 pv wk wi wz fk fi fz) (cwV 2 hts (jgV (jWr_27 _ (List.mem_of_getElem? (i := 1) rfl)) (jWr_27 _ (List.mem_of_getElem? (i := 2) rfl)) (jWr_27 _ (List.mem_of_getElem? (i := 3) rfl)) (jWr_1 _ (List.mem_of_getElem? (i := 22) rfl)) (jWr_27 _ (List.mem_of_getElem? (i := 4) rfl))) rfl rfl rfl (by decide +kernel) ⟨by rw [← hR]; exact Nat.le_of_ble_eq_true rfl, by rw [← hR]; exact Nat.le_of_ble_eq_true rfl⟩) ⟨fun a U g mk q => by obtain ⟨q0, q1, q2, qK, q10, q11, q12, q13, q14, q15, q16, q17⟩ := q; exact ⟨q0, q1, q2, jG.calling g mk a qK, (q10.moved (Vm.Alike.refl U.vm)), q11, q12, q13, q14, q15, q16, q17⟩, hh_38.recv (C := RX4) (T := TX4) (N := 12) hB6 rfl (by decide) hg_js hK, fun U hU hW => ⟨rfl, hU, hh_38.2.1, hG.step hW hU hh_38.1, (hstr317.moved hW.alike).kept hh_38.1.2.1, hg_js, hg_wk, hg_wi, hg_wz, (hh_38.2.2.1.sub (L1 := [(js, 6, 7, .int pv), (js, 6, 0, .ref wk), (js, 6, 1, .ref wi), (js, 6, 2, .ref wz)]) [6, 8, 9, 10] rfl), (hh_38.2.2.2.2.2.2.2.1.sub (L1 := [(wk, 140, 1502, ca 1, fk), (wi, 141, 1502, ca 1, fi), (wz, 142, 1502, ca 1, fz)]) [0, 1, 2] rfl), ⟨(by first | omega | rfl | assumption | fail), (by first | omega | rfl | assumption | fail), (by first | omega | rfl | assumption | fail), (by first | assumption | fail | omega)⟩⟩⟩ rfl rfl hl.1 rfl (lv_room (Nat.le_of_ble_eq_true rfl)) dX11_request_185 ⟨by rw [hRc]; show _ + 0 ≤ _; omega, by rw [hRs]; show _ + 0 ≤ _; omega⟩) hh_38.1 (fun q _ h => h) (fun q h => h) (fun r_42 u_41 t_41 H_41 locs_41 ht_41 hvm_41 hr_42 hb_41 hz_41 hk_41 hS_41 => ?_)
              rw [ht_41] at hb_41
              obtain ⟨hb_41, hbF_41⟩ := hb_41
              obtain ⟨hb_411, hb_412, hb_413, hb_414, hb_415⟩ := hb_41
              have hh_41 : jSt (dC, dI) B base G0 G0 EX11_request s.heap 0 0 [(r0, 13, 11, .int phase_8), (r0, 13, 4, .ref bo), (bo, 2, 1, .int pc), (bo, 2, 0, .ref pa), (r0, 13, 3, .ref ou), (r0, 13, 2, .ref js), (js, 6, 7, .int pv), (js, 6, 8, .int pu), (js, 6, 0, .ref wk), (js, 6, 1, .ref wi), (js, 6, 2, .ref wz), (js, 6, 5, .ref jks)] [(wk, 140, 1502, ca 1, fk), (wi, 141, 1502, ca 1, fi), (wz, 142, 1502, ca 1, fz), (jks, 145, 1502, ca 1, fs)] [([(2, 0), (2, 1)], jOl (dC, dI) G0 2 [bo, ou] s.heap), (jFy, jYb dC dI G0), (jFs11, jSef dC dI G0), (jFl, jLs dC dI ca G0 3 none)] H_41 locs_41 := ((hh_38.call hb_411 hb_412 hb_413 hb_414 hS_41 rfl (L1 := [(r0, 13, 11, .int phase_8), (r0, 13, 4, .ref bo), (bo, 2, 1, .int pc), (bo, 2, 0, .ref pa), (r0, 13, 3, .ref ou), (r0, 13, 2, .ref js), (js, 6, 7, .int pv), (js, 6, 8, .int pu), (js, 6, 0, .ref wk), (js, 6, 1, .ref wi), (js, 6, 2, .ref wz), (js, 6, 5, .ref jks)]) [0, 1, 2, 3, 4, 5, 6, 7, 8, 9, 10, 11] rfl rfl (M1 := [(wk, 140, 1502, ca 1, fk), (wi, 141, 1502, ca 1, fi), (wz, 142, 1502, ca 1, fz), (jks, 145, 1502, ca 1, fs)]) [0, 1, 2, 3] rfl rfl (I1 := [([(2, 0), (2, 1)], jOl (dC, dI) G0 2 [bo, ou] s.heap), (jFy, jYb dC dI G0), (jFs11, jSef dC dI G0), (jFl, jLs dC dI ca G0 3 none)]) [0, 1, 2, 3] rfl rfl).more hb_415)
              clear hh_38 ht_41 hvm_41 hz_41 hk_41 hS_41 hb_411 hb_412 hb_413 hb_414 hb_415
              obtain ⟨hr_42b, hr_42p⟩ := hr_42
              have hr_42' := jb_01 hr_42b
              refine lv_if_eq (tgt := 204) hx hb dX11_request_188 (by decide) (fun c_43 => ?_) (fun c_43 => ?_)
              · skip
                have c_43' : r_42.toInt = 0 := jb_eq (rfl) ((by decide)) c_43
                first | (have hr_3_2q := hr_3_2.resolve_left (by omega); clear hr_3_2) | (have hr_3_2q := hr_3_2.resolve_right (by omega); clear hr_3_2) | skip
                first | (have hr_5pq := hr_5p.resolve_left (by omega); clear hr_5p) | (have hr_5pq := hr_5p.resolve_right (by omega); clear hr_5p) | skip
                first | (have hr_42pq := hr_42p.resolve_left (by omega); clear hr_42p) | (have hr_42pq := hr_42p.resolve_right (by omega); clear hr_42p) | try clear hr_42p
                refine lv_aload_n hx hb dX11_request_204 rfl (lv_at hl 2 rfl) ?_
                refine lv_aload_n hx hb dX11_request_205 rfl (lv_at hl 3 rfl) ?_
                refine lv_sipush (v := (-32601)) hx hb dX11_request_206 (by decide) ?_
                have hsz_44 := hh_41.2.2.2.2.2.1
                have htt_44 := hh_41.2.2.2.2.2.2.1
                refine W.room (fun hrc_44 hrs_44 => ?_)
                refine va_callv (A0 := jA base) (H0 := s.heap) (va_runV (As := [.ref r1, .int (-32601)]) (rest := []) ⟨hx, hb, hml, hown, hts⟩ (uX11_refuse l dC dI ca base B hB hAp hB2 hB4 hB10 hB13 hB196 G0 H_41 r0 r1 (-32601) bo pc pa n_pa ou LC LS) (cwV 2 hts (jgV (jWr_26 _ (List.mem_of_getElem? (i := 3) rfl)) (jWr_26 _ (List.mem_of_getElem? (i := 4) rfl)) (jWr_26 _ (List.mem_of_getElem? (i := 5) rfl)) (jWr_1 _ (List.mem_of_getElem? (i := 2) rfl)) (jWr_26 _ (List.mem_of_getElem? (i := 6) rfl))) rfl rfl rfl (by decide +kernel) ⟨by rw [← hR]; exact Nat.le_of_ble_eq_true rfl, by rw [← hR]; exact Nat.le_of_ble_eq_true rfl⟩) ⟨fun a U g mk q => by obtain ⟨q0, q1, q2, qK, q10, q11, q12, q13, q14, q15, q16, q17⟩ := q; exact ⟨q0, q1, q2, jG.calling g mk a qK, q10, q11, q12, q13, q14, q15, q16, q17⟩, hh_41.recv (C := RX11) (T := TX11) (N := 19) hB13 rfl (by decide) hg_r0 hK, fun U hU hW => ⟨rfl, hU, hh_41.2.1, hG.step hW hU hh_41.1, hg_r1, hg_r0, hg_bo, hg_pa, hg_ou, (hh_41.2.2.1.sub (L1 := [(r0, 13, 4, .ref bo), (bo, 2, 1, .int pc), (bo, 2, 0, .ref pa), (r0, 13, 3, .ref ou)]) [1, 2, 3, 4] rfl), (hh_41.2.2.2.2.2.2.2.2.sub (L1 := [(jFy, jYb dC dI G0)]) [1] rfl), (by omega), (by omega), ⟨(by first | omega | rfl | assumption | fail), (by first | omega | rfl | assumption | fail), (by first | omega | rfl | assumption | fail), (by first | omega | rfl | assumption | fail), (by first | assumption | fail | omega)⟩⟩⟩ rfl rfl hl.1 rfl (lv_room (Nat.le_of_ble_eq_true rfl)) dX11_request_209 ⟨by rw [hRc]; omega, by rw [hRs]; omega⟩) hh_41.1 (fun q _ h => h) (fun q h => h) (fun u_44 t_44 H_44 locs_44 ht_44 hvm_44 hr_45 hb_44 hz_44 hk_44 hS_44 => ?_)
                obtain ⟨qc_44, qa_44, m_qa_44, G_44⟩ := u_44
                rw [ht_44] at hb_44
                simp only at hb_44
                obtain ⟨⟨hb_441, hb_442, hb_443, hb_444, hb_445, hb_446⟩, hgq_44_0, hN_44, hbO_44, hbE_44⟩ := hb_44
                have hh_44 : jSt (dC, dI) B base G0 G_44 EX11_request s.heap (0 + ((m_qa_44 - n_pa) / 16)) (0 + (2 * (m_qa_44 - n_pa))) [(bo, 2, 1, .int qc_44), (bo, 2, 0, .ref qa_44), (r0, 13, 11, .int phase_8), (r0, 13, 4, .ref bo), (r0, 13, 3, .ref ou), (r0, 13, 2, .ref js), (js, 6, 7, .int pv), (js, 6, 8, .int pu), (js, 6, 0, .ref wk), (js, 6, 1, .ref wi), (js, 6, 2, .ref wz), (js, 6, 5, .ref jks)] [(wk, 140, 1502, ca 1, fk), (wi, 141, 1502, ca 1, fi), (wz, 142, 1502, ca 1, fz), (jks, 145, 1502, ca 1, fs)] [(jFs11, jSef dC dI G0), (jFl, jLs dC dI ca G0 3 none)] H_44 locs_44 := (hh_41.callG hb_441 hb_442 hb_443 hb_444 hb_445 hS_44 rfl (L1 := [(r0, 13, 11, .int phase_8), (r0, 13, 4, .ref bo), (r0, 13, 3, .ref ou), (r0, 13, 2, .ref js), (js, 6, 7, .int pv), (js, 6, 8, .int pu), (js, 6, 0, .ref wk), (js, 6, 1, .ref wi), (js, 6, 2, .ref wz), (js, 6, 5, .ref jks)]) [0, 1, 4, 5, 6, 7, 8, 9, 10, 11] rfl rfl (M1 := [(wk, 140, 1502, ca 1, fk), (wi, 141, 1502, ca 1, fi), (wz, 142, 1502, ca 1, fz), (jks, 145, 1502, ca 1, fs)]) [0, 1, 2, 3] rfl rfl (I1 := [(jFs11, jSef dC dI G0), (jFl, jLs dC dI ca G0 3 none)]) [2, 3] rfl rfl).more hb_446
                have hNn_44 : (jNk [0, 1, 2, 3, 4, 5, 6, 7, 8, 9, 10, 11, 12, 13, 14, 15, 16]) G0 G_44 := (jNk.rf).tr hN_44
                have hg_46 := hb_442 _ _ hg_r0
                have hg_47 := hb_442 _ _ hg_r1
                have hg_48 := hb_442 _ _ hg_bo
                have hg_49 := hb_442 _ _ hg_ou
                have hg_50 := hb_442 _ _ hg_js
                have hg_51 := hb_442 _ _ hg_wk
                have hg_52 := hb_442 _ _ hg_wi
                have hg_53 := hb_442 _ _ hg_wz
                have hg_54 := hb_442 _ _ hg_jks
                have hd_55 := jSef.grow (hh_44.iv 0 rfl) hb_442 hN_44 (by decide)
                have hh_56 := hh_44.sub (L1 := [(bo, 2, 1, .int qc_44), (bo, 2, 0, .ref qa_44), (r0, 13, 11, .int phase_8), (r0, 13, 4, .ref bo), (r0, 13, 3, .ref ou), (r0, 13, 2, .ref js), (js, 6, 7, .int pv), (js, 6, 8, .int pu), (js, 6, 0, .ref wk), (js, 6, 1, .ref wi), (js, 6, 2, .ref wz), (js, 6, 5, .ref jks)]) [0, 1, 2, 3, 4, 5, 6, 7, 8, 9, 10, 11] rfl (M1 := [(wk, 140, 1502, ca 1, fk), (wi, 141, 1502, ca 1, fi), (wz, 142, 1502, ca 1, fz), (jks, 145, 1502, ca 1, fs)]) [0, 1, 2, 3] rfl (I1 := [(jFl, jLs dC dI ca G0 3 none)]) [1] rfl
                clear hh_44
                have hh_57 := hh_56.addI (jSef.ie hd_55)
                clear hh_56
                have hd_58 := jLs.grow (hh_57.iv 1 rfl) hb_442 hN_44 (by decide)
                have hh_59 := hh_57.sub (L1 := [(bo, 2, 1, .int qc_44), (bo, 2, 0, .ref qa_44), (r0, 13, 11, .int phase_8), (r0, 13, 4, .ref bo), (r0, 13, 3, .ref ou), (r0, 13, 2, .ref js), (js, 6, 7, .int pv), (js, 6, 8, .int pu), (js, 6, 0, .ref wk), (js, 6, 1, .ref wi), (js, 6, 2, .ref wz), (js, 6, 5, .ref jks)]) [0, 1, 2, 3, 4, 5, 6, 7, 8, 9, 10, 11] rfl (M1 := [(wk, 140, 1502, ca 1, fk), (wi, 141, 1502, ca 1, fi), (wz, 142, 1502, ca 1, fz), (jks, 145, 1502, ca 1, fs)]) [0, 1, 2, 3] rfl (I1 := [(jFs11, jSef dC dI G_44)]) [0] rfl
                clear hh_57
                have hh_60 := hh_59.addI (jLs.ie hd_58)
                clear hh_59
                have hh_61 := hh_60.addIs hbE_44
                have hd_62 := jOl.trL (hh_41.iv 0 rfl) hh_41.2.2.2.2.1 hbO_44 (by simp)
                have hh_63 := hh_61.addI (jOl.ie (dC := dC) (dI := dI) (G0 := G0) (k := 2) (rs := [bo, ou]) (H0 := s.heap) (F := [(2, 0), (2, 1)]) (C := RX0) (T := TX0) (N := 2) rfl (by decide) hh_61.2.2.2.2.1 (hd_62))
                clear hh_61
                try simp only at hr_45
                obtain ⟨hr_45_0, hr_45_1, hr_45_2, hr_45_3, hr_45_4⟩ := hr_45
                have hh_64 := hh_63.wk (zc1 := (m_qa_44 - n_pa) / 16 + 2) (zs1 := 2 * (m_qa_44 - n_pa) + 40 + pu.toInt.toNat) (by omega) (by omega)
                clear hh_63
                try clear hsz_44 htt_44 hrc_44 hrs_44
                try clear hb_444 hb_445
                have hsz_65 := hh_64.2.2.2.2.2.1
                have htt_65 := hh_64.2.2.2.2.2.2.1
                refine W.room (fun hrc_65 hrs_65 => ?_)
                refine W.widen (k := LC - s.heap.size) (n := LS - jTot s.heap) (by omega) (by omega) ?_
                rw [hQ]
                exact W.vret hx hb hr (fun t ht hW => ⟨⟨(qc_44, qa_44, m_qa_44, G_44), rfl, by (try dsimp only); exact ⟨(by first | omega | rfl | assumption | fail), (by first | omega | rfl | assumption | fail), (by first | omega | rfl | assumption | fail), (by first | omega | rfl | assumption | fail), (by first | assumption | fail | omega)⟩, ⟨hh_64.ra (by first | omega | (simp only; omega)) (by first | omega | (simp only; omega)) (M1 := [(bo, 2, 1, .int qc_44), (bo, 2, 0, .ref qa_44)]) [0, 1] rfl ht, hgq_44_0, hNn_44, by rw [ht]; exact hh_64.iv 0 rfl, by rw [ht]; exact hh_64.2.2.2.2.2.2.2.2.sub (L1 := [(jFy, jYb dC dI G_44), (jFs11, jSef dC dI G_44), (jFl, jLs dC dI ca G_44 3 none)]) [1, 3, 2] rfl⟩⟩, by rw [ht]; try exact hh_64.1.1, fun q h9 hq => by rw [ht]; try exact hh_64.1.2.1 q h9 hq⟩) hh_64.1.2.2 dX11_request_212
              · skip
                have c_43' : r_42.toInt ≠ 0 := jb_eq_n (rfl) ((by decide)) c_43
                first | (have hr_3_2q := hr_3_2.resolve_left (by omega); clear hr_3_2) | (have hr_3_2q := hr_3_2.resolve_right (by omega); clear hr_3_2) | skip
                first | (have hr_5pq := hr_5p.resolve_left (by omega); clear hr_5p) | (have hr_5pq := hr_5p.resolve_right (by omega); clear hr_5p) | skip
                first | (have hr_42pq := hr_42p.resolve_left (by omega); clear hr_42p) | (have hr_42pq := hr_42p.resolve_right (by omega); clear hr_42p) | try clear hr_42p
                refine lv_aload_n hx hb dX11_request_191 rfl (lv_at hl 2 rfl) ?_
                refine lv_aload_n hx hb dX11_request_192 rfl (lv_at hl 3 rfl) ?_
                refine lv_aload_n hx hb dX11_request_193 rfl (lv_at hl 2 rfl) ?_
                refine lv_aload_n hx hb dX11_request_194 rfl (lv_at hl 3 rfl) ?_
                have hsz_66 := hh_41.2.2.2.2.2.1
                have htt_66 := hh_41.2.2.2.2.2.2.1
                refine W.room (fun hrc_66 hrs_66 => ?_)
                refine va_calli (A0 := jA base) (H0 := s.heap) (va_runV (As := [.ref r1]) (rest := [.ref r1, .ref r0]) ⟨hx, hb, hml, hown, hts⟩ (uX11_aimAtName l dC dI ca base B hB hAp hB1 hB3 hB6 hB7 hB8 hB10 hB13 hB101 hB102 hB132 hB133 hB140 hB141 hB142 hB143 hB144 hB145 hB146 hB221 G0 H_41 r0 r1 js pv pu wk wi wz jks fk fi fz fs LC LS) (cwV 1 hts (jgV (jWr_35 _ (List.mem_of_getElem? (i := 0) rfl)) (jWr_35 _ (List.mem_of_getElem? (i := 1) rfl)) (jWr_35 _ (List.mem_of_getElem? (i := 2) rfl)) (jWr_1 _ (List.mem_of_getElem? (i := 2) rfl)) (jWr_35 _ (List.mem_of_getElem? (i := 3) rfl))) rfl rfl rfl (by decide +kernel) ⟨by rw [← hR]; exact Nat.le_of_ble_eq_true rfl, by rw [← hR]; exact Nat.le_of_ble_eq_true rfl⟩) ⟨fun a U g mk q => by obtain ⟨q0, q1, q2, qK, q10, q11, q12, q13, q14, q15, q16, q17, q18, q19, q20, q21⟩ := q; exact ⟨q0, q1, q2, jG.calling g mk a qK, (jK7.calling g mk a q10), q11, q12, q13, q14, q15, q16, q17, q18, q19, q20, q21⟩, hh_41.recv (C := RX11) (T := TX11) (N := 19) hB13 rfl (by decide) hg_r0 hK, fun U hU hW => ⟨rfl, hU, hh_41.2.1, hG.step hW hU hh_41.1, (hK7.step hW hU hh_41.1), hg_r0, hg_r1, hg_js, hg_wk, hg_wi, hg_wz, hg_jks, (hh_41.2.2.1.sub (L1 := [(r0, 13, 2, .ref js), (js, 6, 7, .int pv), (js, 6, 8, .int pu), (js, 6, 0, .ref wk), (js, 6, 1, .ref wi), (js, 6, 2, .ref wz), (js, 6, 5, .ref jks)]) [5, 6, 7, 8, 9, 10, 11] rfl), (hh_41.2.2.2.2.2.2.2.1.sub (L1 := [(wk, 140, 1502, ca 1, fk), (wi, 141, 1502, ca 1, fi), (wz, 142, 1502, ca 1, fz), (jks, 145, 1502, ca 1, fs)]) [0, 1, 2, 3] rfl), (hh_41.2.2.2.2.2.2.2.2.sub (L1 := [(jFl, jLs dC dI ca G0 3 none)]) [3] rfl), (by omega), (by omega), ⟨(by first | omega | rfl | assumption | fail), (by first | omega | rfl | assumption | fail), (by first | omega | rfl | assumption | fail), (by first | omega | rfl | assumption | fail), (by first | assumption | fail | omega), (by first | assumption | fail | omega)⟩⟩⟩ rfl rfl hl.1 rfl (lv_room (Nat.le_of_ble_eq_true rfl)) dX11_request_195 ⟨by rw [hRc]; omega, by rw [hRs]; omega⟩) hh_41.1 (fun q _ h => h) (fun q h => h) (fun r_67 u_66 t_66 H_66 locs_66 ht_66 hvm_66 hr_67 hb_66 hz_66 hk_66 hS_66 => ?_)
                rw [ht_66] at hb_66
                obtain ⟨G_66, rfl⟩ : ∃ z, z = u_66 := ⟨_, rfl⟩
                try simp only at hb_66
                obtain ⟨⟨hb_661, hb_662, hb_663, hb_664, hb_665, hb_666⟩, hN_66, hbE_66⟩ := hb_66
                have hh_66 : jSt (dC, dI) B base G0 G_66 EX11_request s.heap (0 + (1)) (0 + ((pu.toInt : Int).toNat)) [(r0, 13, 11, .int phase_8), (r0, 13, 4, .ref bo), (bo, 2, 1, .int pc), (bo, 2, 0, .ref pa), (r0, 13, 3, .ref ou), (r0, 13, 2, .ref js), (js, 6, 7, .int pv), (js, 6, 8, .int pu), (js, 6, 0, .ref wk), (js, 6, 1, .ref wi), (js, 6, 2, .ref wz), (js, 6, 5, .ref jks)] [(wk, 140, 1502, ca 1, fk), (wi, 141, 1502, ca 1, fi), (wz, 142, 1502, ca 1, fz), (jks, 145, 1502, ca 1, fs)] [([(2, 0), (2, 1)], jOl (dC, dI) G0 2 [bo, ou] s.heap), (jFy, jYb dC dI G0), (jFs11, jSef dC dI G0)] H_66 locs_66 := (hh_41.callG hb_661 hb_662 hb_663 hb_664 hb_665 hS_66 rfl (L1 := [(r0, 13, 11, .int phase_8), (r0, 13, 4, .ref bo), (bo, 2, 1, .int pc), (bo, 2, 0, .ref pa), (r0, 13, 3, .ref ou), (r0, 13, 2, .ref js), (js, 6, 7, .int pv), (js, 6, 8, .int pu), (js, 6, 0, .ref wk), (js, 6, 1, .ref wi), (js, 6, 2, .ref wz), (js, 6, 5, .ref jks)]) [0, 1, 2, 3, 4, 5, 6, 7, 8, 9, 10, 11] rfl rfl (M1 := [(wk, 140, 1502, ca 1, fk), (wi, 141, 1502, ca 1, fi), (wz, 142, 1502, ca 1, fz), (jks, 145, 1502, ca 1, fs)]) [0, 1, 2, 3] rfl rfl (I1 := [([(2, 0), (2, 1)], jOl (dC, dI) G0 2 [bo, ou] s.heap), (jFy, jYb dC dI G0), (jFs11, jSef dC dI G0)]) [0, 1, 2] rfl rfl).more hb_666
                have hNn_66 : (jNk [0, 1, 2, 3, 4, 5, 6, 7, 8, 9, 10, 11, 12, 13, 14, 15, 16]) G0 G_66 := (jNk.rf).tr hN_66
                have hg_68 := hb_662 _ _ hg_r0
                have hg_69 := hb_662 _ _ hg_r1
                have hg_70 := hb_662 _ _ hg_bo
                have hg_71 := hb_662 _ _ hg_pa
                have hg_72 := hb_662 _ _ hg_ou
                have hg_73 := hb_662 _ _ hg_js
                have hg_74 := hb_662 _ _ hg_wk
                have hg_75 := hb_662 _ _ hg_wi
                have hg_76 := hb_662 _ _ hg_wz
                have hg_77 := hb_662 _ _ hg_jks
                have hd_78 := jYb.grow (hh_66.iv 1 rfl) hb_662 hN_66 (by decide)
                have hh_79 := hh_66.sub (L1 := [(r0, 13, 11, .int phase_8), (r0, 13, 4, .ref bo), (bo, 2, 1, .int pc), (bo, 2, 0, .ref pa), (r0, 13, 3, .ref ou), (r0, 13, 2, .ref js), (js, 6, 7, .int pv), (js, 6, 8, .int pu), (js, 6, 0, .ref wk), (js, 6, 1, .ref wi), (js, 6, 2, .ref wz), (js, 6, 5, .ref jks)]) [0, 1, 2, 3, 4, 5, 6, 7, 8, 9, 10, 11] rfl (M1 := [(wk, 140, 1502, ca 1, fk), (wi, 141, 1502, ca 1, fi), (wz, 142, 1502, ca 1, fz), (jks, 145, 1502, ca 1, fs)]) [0, 1, 2, 3] rfl (I1 := [([(2, 0), (2, 1)], jOl (dC, dI) G0 2 [bo, ou] s.heap), (jFs11, jSef dC dI G0)]) [0, 2] rfl
                clear hh_66
                have hh_80 := hh_79.addI (jYb.ie hd_78)
                clear hh_79
                have hd_81 := jSef.grow (hh_80.iv 2 rfl) hb_662 hN_66 (by decide)
                have hh_82 := hh_80.sub (L1 := [(r0, 13, 11, .int phase_8), (r0, 13, 4, .ref bo), (bo, 2, 1, .int pc), (bo, 2, 0, .ref pa), (r0, 13, 3, .ref ou), (r0, 13, 2, .ref js), (js, 6, 7, .int pv), (js, 6, 8, .int pu), (js, 6, 0, .ref wk), (js, 6, 1, .ref wi), (js, 6, 2, .ref wz), (js, 6, 5, .ref jks)]) [0, 1, 2, 3, 4, 5, 6, 7, 8, 9, 10, 11] rfl (M1 := [(wk, 140, 1502, ca 1, fk), (wi, 141, 1502, ca 1, fi), (wz, 142, 1502, ca 1, fz), (jks, 145, 1502, ca 1, fs)]) [0, 1, 2, 3] rfl (I1 := [(jFy, jYb dC dI G_66), ([(2, 0), (2, 1)], jOl (dC, dI) G0 2 [bo, ou] s.heap)]) [0, 1] rfl
                clear hh_80
                have hh_83 := hh_82.addI (jSef.ie hd_81)
                clear hh_82
                have hh_84 := hh_83.addIs hbE_66
                obtain ⟨hr_67b, hr_67p⟩ := hr_67
                try simp only at hr_67p
                have hr_67' := jb_01 hr_67b
                have hsz_85 := hh_84.2.2.2.2.2.1
                have htt_85 := hh_84.2.2.2.2.2.2.1
                refine W.room (fun hrc_85 hrs_85 => ?_)
                refine va_callv (A0 := jA base) (H0 := s.heap) (va_runV (As := [.ref r1, .int r_67]) (rest := []) ⟨hx, hb, hml, hown, hts⟩ (uX11_answerOrWait l dC dI ca base B hB hAp hB1 hB2 hB3 hB4 hB5 hB7 hB8 hB9 hB10 hB11 hB13 hB101 hB102 hB132 hB196 hB210 hB214 hB222 hB280 hB286 hB287 hB288 hB313 G_66 H_66 r0 r1 r_67 bo pc pa n_pa ou LC LS) (cwV 2 hts (jgV (jWr_29 _ (List.mem_of_getElem? (i := 15) rfl)) (jWr_29 _ (List.mem_of_getElem? (i := 16) rfl)) (jWr_29 _ (List.mem_of_getElem? (i := 17) rfl)) (jWr_1 _ (List.mem_of_getElem? (i := 2) rfl)) (jWr_29 _ (List.mem_of_getElem? (i := 18) rfl))) rfl rfl rfl (by decide +kernel) ⟨by rw [← hR]; exact Nat.le_of_ble_eq_true rfl, by rw [← hR]; exact Nat.le_of_ble_eq_true rfl⟩) ⟨fun a U g mk q => by obtain ⟨q0, q1, q2, qK, q10, q11, q12, q13, q14, q15, q16, q17, q18, q19, q20, q21⟩ := q; exact ⟨q0, q1, q2, jG.calling g mk a qK, (va_K.moved (Vm.Alike.refl U.vm) q10), (jK5.moved (Vm.Alike.refl U.vm) q11), (jK7.calling g mk a q12), q13, q14, q15, q16, q17, q18, q19, q20, q21⟩, hh_84.recv (C := RX11) (T := TX11) (N := 19) hB13 rfl (by decide) hg_68 hK, fun U hU hW => ⟨rfl, hU, hh_84.2.1, hG.step hW hU hh_84.1, va_K.moved hW.alike hK2, jK5.moved hW.alike hK5, (hK7.step hW hU hh_84.1), hg_68, hg_69, (hr_67b), hg_70, hg_71, hg_72, (hh_84.2.2.1.sub (L1 := [(r0, 13, 4, .ref bo), (bo, 2, 1, .int pc), (bo, 2, 0, .ref pa), (r0, 13, 3, .ref ou)]) [1, 2, 3, 4] rfl), (hh_84.2.2.2.2.2.2.2.2.sub (L1 := [(jFy, jYb dC dI G_66), (jFs11, jSef dC dI G_66), (jFl, jLs dC dI ca G_66 3 none)]) [2, 1, 0] rfl), (by omega), (by omega), ⟨(by first | omega | rfl | assumption | fail), (by first | omega | rfl | assumption | fail), (by first | omega | rfl | assumption | fail), (by first | omega | rfl | assumption | fail), (by first | assumption | fail | omega)⟩⟩⟩ rfl rfl hl.1 rfl (lv_room (Nat.le_of_ble_eq_true rfl)) dX11_request_198 ⟨by rw [hRc]; omega, by rw [hRs]; omega⟩) hh_84.1 (fun q _ h => h) (fun q h => h) (fun u_85 t_85 H_85 locs_85 ht_85 hvm_85 hr_86 hb_85 hz_85 hk_85 hS_85 => ?_)
                obtain ⟨qc_85, qa_85, m_qa_85, G_85⟩ := u_85
                rw [ht_85] at hb_85
                simp only at hb_85
                obtain ⟨⟨hb_851, hb_852, hb_853, hb_854, hb_855, hb_856⟩, hgq_85_0, hN_85, hbO_85, hbE_85⟩ := hb_85
                have hh_85 : jSt (dC, dI) B base G0 G_85 EX11_request s.heap ((0 + (1)) + ((m_qa_85 - n_pa) / 16 + 1)) ((0 + ((pu.toInt : Int).toNat)) + (2 * (m_qa_85 - n_pa) + 40)) [(bo, 2, 1, .int qc_85), (bo, 2, 0, .ref qa_85), (r0, 13, 11, .int phase_8), (r0, 13, 4, .ref bo), (r0, 13, 3, .ref ou), (r0, 13, 2, .ref js), (js, 6, 7, .int pv), (js, 6, 8, .int pu), (js, 6, 0, .ref wk), (js, 6, 1, .ref wi), (js, 6, 2, .ref wz), (js, 6, 5, .ref jks)] [(wk, 140, 1502, ca 1, fk), (wi, 141, 1502, ca 1, fi), (wz, 142, 1502, ca 1, fz), (jks, 145, 1502, ca 1, fs)] [] H_85 locs_85 := (hh_84.callG hb_851 hb_852 hb_853 hb_854 hb_855 hS_85 rfl (L1 := [(r0, 13, 11, .int phase_8), (r0, 13, 4, .ref bo), (r0, 13, 3, .ref ou), (r0, 13, 2, .ref js), (js, 6, 7, .int pv), (js, 6, 8, .int pu), (js, 6, 0, .ref wk), (js, 6, 1, .ref wi), (js, 6, 2, .ref wz), (js, 6, 5, .ref jks)]) [0, 1, 4, 5, 6, 7, 8, 9, 10, 11] rfl rfl (M1 := [(wk, 140, 1502, ca 1, fk), (wi, 141, 1502, ca 1, fi), (wz, 142, 1502, ca 1, fz), (jks, 145, 1502, ca 1, fs)]) [0, 1, 2, 3] rfl rfl (I1 := []) [] rfl rfl).more hb_856
                have hNn_85 : (jNk [0, 1, 2, 3, 4, 5, 6, 7, 8, 9, 10, 11, 12, 13, 14, 15, 16]) G0 G_85 := (hNn_66).tr hN_85
                have hg_87 := hb_852 _ _ hg_68
                have hg_88 := hb_852 _ _ hg_69
                have hg_89 := hb_852 _ _ hg_70
                have hg_90 := hb_852 _ _ hg_72
                have hg_91 := hb_852 _ _ hg_73
                have hg_92 := hb_852 _ _ hg_74
                have hg_93 := hb_852 _ _ hg_75
                have hg_94 := hb_852 _ _ hg_76
                have hg_95 := hb_852 _ _ hg_77
                have hh_96 := hh_85.addIs hbE_85
                have hd_97 := jOl.trL (hh_84.iv 3 rfl) hh_84.2.2.2.2.1 hbO_85 (by simp)
                have hh_98 := hh_96.addI (jOl.ie (dC := dC) (dI := dI) (G0 := G0) (k := 2) (rs := [bo, ou]) (H0 := s.heap) (F := [(2, 0), (2, 1)]) (C := RX0) (T := TX0) (N := 2) rfl (by decide) hh_96.2.2.2.2.1 (hd_97))
                clear hh_96
                try simp only at hr_86
                obtain ⟨hr_86_0, hr_86_1, hr_86_2, hr_86_3, hr_86_4⟩ := hr_86
                have hh_99 := hh_98.wk (zc1 := (m_qa_85 - n_pa) / 16 + 2) (zs1 := 2 * (m_qa_85 - n_pa) + 40 + pu.toInt.toNat) (by omega) (by omega)
                clear hh_98
                try clear hsz_85 htt_85 hrc_85 hrs_85
                try clear hb_854 hb_855
                refine lv_goto (tgt := 212) hx hb dX11_request_201 (by decide) ?_
                have hsz_100 := hh_99.2.2.2.2.2.1
                have htt_100 := hh_99.2.2.2.2.2.2.1
                refine W.room (fun hrc_100 hrs_100 => ?_)
                refine W.widen (k := LC - s.heap.size) (n := LS - jTot s.heap) (by omega) (by omega) ?_
                rw [hQ]
                exact W.vret hx hb hr (fun t ht hW => ⟨⟨(qc_85, qa_85, m_qa_85, G_85), rfl, by (try dsimp only); exact ⟨(by first | omega | rfl | assumption | fail), (by first | omega | rfl | assumption | fail), (by first | omega | rfl | assumption | fail), (by first | omega | rfl | assumption | fail), (by first | assumption | fail | omega)⟩, ⟨hh_99.ra (by first | omega | (simp only; omega)) (by first | omega | (simp only; omega)) (M1 := [(bo, 2, 1, .int qc_85), (bo, 2, 0, .ref qa_85)]) [0, 1] rfl ht, hgq_85_0, hNn_85, by rw [ht]; exact hh_99.iv 0 rfl, by rw [ht]; exact hh_99.2.2.2.2.2.2.2.2.sub (L1 := [(jFy, jYb dC dI G_85), (jFs11, jSef dC dI G_85), (jFl, jLs dC dI ca G_85 3 none)]) [1, 2, 3] rfl⟩⟩, by rw [ht]; try exact hh_99.1.1, fun q h9 hq => by rw [ht]; try exact hh_99.1.2.1 q h9 hq⟩) hh_99.1.2.2 dX11_request_212
            · skip
              have c_40' : r_39.toInt ≠ 0 := jb_eq_n (rfl) ((by decide)) c_40
              first | (have hr_3_2q := hr_3_2.resolve_left (by omega); clear hr_3_2) | (have hr_3_2q := hr_3_2.resolve_right (by omega); clear hr_3_2) | skip
              first | (have hr_5pq := hr_5p.resolve_left (by omega); clear hr_5p) | (have hr_5pq := hr_5p.resolve_right (by omega); clear hr_5p) | skip
              first | (have hr_39pq := hr_39p.resolve_left (by omega); clear hr_39p) | (have hr_39pq := hr_39p.resolve_right (by omega); clear hr_39p) | try clear hr_39p
              refine lv_aload_n hx hb dX11_request_164 rfl (lv_at hl 2 rfl) ?_
              refine lv_aload_n hx hb dX11_request_165 rfl (lv_at hl 3 rfl) ?_
              refine lv_aload_n hx hb dX11_request_166 rfl (lv_at hl 2 rfl) ?_
              refine lv_aload_n hx hb dX11_request_167 rfl (lv_at hl 3 rfl) ?_
              have hsz_101 := hh_38.2.2.2.2.2.1
              have htt_101 := hh_38.2.2.2.2.2.2.1
              refine W.room (fun hrc_101 hrs_101 => ?_)
              refine va_calli (A0 := jA base) (H0 := s.heap) (va_runV (As := [.ref r1]) (rest := [.ref r1, .ref r0]) ⟨hx, hb, hml, hown, hts⟩ (uX11_aimAtPlace l dC dI ca base B hB hAp hB1 hB3 hB6 hB10 hB13 hB101 hB140 hB141 hB142 hB143 hB144 hB145 hB146 hB172 hB221 G0 H_38 r0 r1) (cwV 1 hts (jgV (jWr_27 _ (List.mem_of_getElem? (i := 10) rfl)) (jWr_27 _ (List.mem_of_getElem? (i := 11) rfl)) (jWr_27 _ (List.mem_of_getElem? (i := 12) rfl)) (jWr_1 _ (List.mem_of_getElem? (i := 2) rfl)) (jWr_27 _ (List.mem_of_getElem? (i := 13) rfl))) rfl rfl rfl (by decide +kernel) ⟨by rw [← hR]; exact Nat.le_of_ble_eq_true rfl, by rw [← hR]; exact Nat.le_of_ble_eq_true rfl⟩) ⟨fun a U g mk q => by obtain ⟨q0, q1, q2, qK, q10, q11, q12, q13, q14, q15⟩ := q; exact ⟨q0, q1, q2, jG.calling g mk a qK, (jK7.calling g mk a q10), q11, q12, q13, q14, q15⟩, hh_38.recv (C := RX11) (T := TX11) (N := 19) hB13 rfl (by decide) hg_r0 hK, fun U hU hW => ⟨rfl, hU, hh_38.2.1, hG.step hW hU hh_38.1, (hK7.step hW hU hh_38.1), hg_r0, hg_r1, jP.nil, (hh_38.2.2.2.2.2.2.2.2.sub (L1 := [(jFl, jLs dC dI ca G0 3 none)]) [3] rfl), trivial⟩⟩ rfl rfl hl.1 rfl (lv_room (Nat.le_of_ble_eq_true rfl)) dX11_request_168 ⟨by rw [hRc]; show _ + 0 ≤ _; omega, by rw [hRs]; show _ + 0 ≤ _; omega⟩) hh_38.1 (fun q _ h => h) (fun q h => h) (fun r_102 u_101 t_101 H_101 locs_101 ht_101 hvm_101 hr_102 hb_101 hz_101 hk_101 hS_101 => ?_)
              rw [ht_101] at hb_101
              obtain ⟨hb_101, hbE_101⟩ := hb_101
              obtain ⟨hb_1011, hb_1012, hb_1013, hb_1014, hb_1015⟩ := hb_101
              have hh_101 : jSt (dC, dI) B base G0 G0 EX11_request s.heap 0 0 [(r0, 13, 11, .int phase_8), (r0, 13, 4, .ref bo), (bo, 2, 1, .int pc), (bo, 2, 0, .ref pa), (r0, 13, 3, .ref ou), (r0, 13, 2, .ref js), (js, 6, 7, .int pv), (js, 6, 8, .int pu), (js, 6, 0, .ref wk), (js, 6, 1, .ref wi), (js, 6, 2, .ref wz), (js, 6, 5, .ref jks)] [(wk, 140, 1502, ca 1, fk), (wi, 141, 1502, ca 1, fi), (wz, 142, 1502, ca 1, fz), (jks, 145, 1502, ca 1, fs)] [(jFl, jLs dC dI ca G0 3 none), ([(2, 0), (2, 1)], jOl (dC, dI) G0 2 [bo, ou] s.heap), (jFy, jYb dC dI G0), (jFs11, jSef dC dI G0)] H_101 locs_101 := (((hh_38.call hb_1011 hb_1012 hb_1013 hb_1014 hS_101 rfl (L1 := [(r0, 13, 11, .int phase_8), (r0, 13, 4, .ref bo), (bo, 2, 1, .int pc), (bo, 2, 0, .ref pa), (r0, 13, 3, .ref ou), (r0, 13, 2, .ref js), (js, 6, 7, .int pv), (js, 6, 8, .int pu), (js, 6, 0, .ref wk), (js, 6, 1, .ref wi), (js, 6, 2, .ref wz), (js, 6, 5, .ref jks)]) [0, 1, 2, 3, 4, 5, 6, 7, 8, 9, 10, 11] rfl rfl (M1 := [(wk, 140, 1502, ca 1, fk), (wi, 141, 1502, ca 1, fi), (wz, 142, 1502, ca 1, fz), (jks, 145, 1502, ca 1, fs)]) [0, 1, 2, 3] rfl rfl (I1 := [([(2, 0), (2, 1)], jOl (dC, dI) G0 2 [bo, ou] s.heap), (jFy, jYb dC dI G0), (jFs11, jSef dC dI G0)]) [0, 1, 2] rfl rfl).more hb_1015)).addIs hbE_101
              clear hh_38 ht_101 hvm_101 hz_101 hk_101 hS_101 hb_1011 hb_1012 hb_1013 hb_1014 hb_1015
              clear  hbE_101
              obtain ⟨hr_102b, hr_102p⟩ := hr_102
              have hr_102' := jb_01 hr_102b
              have hsz_103 := hh_101.2.2.2.2.2.1
              have htt_103 := hh_101.2.2.2.2.2.2.1
              refine W.room (fun hrc_103 hrs_103 => ?_)
              refine va_callv (A0 := jA base) (H0 := s.heap) (va_runV (As := [.ref r1, .int r_102]) (rest := []) ⟨hx, hb, hml, hown, hts⟩ (uX11_answerOrWait l dC dI ca base B hB hAp hB1 hB2 hB3 hB4 hB5 hB7 hB8 hB9 hB10 hB11 hB13 hB101 hB102 hB132 hB196 hB210 hB214 hB222 hB280 hB286 hB287 hB288 hB313 G0 H_101 r0 r1 r_102 bo pc pa n_pa ou LC LS) (cwV 2 hts (jgV (jWr_29 _ (List.mem_of_getElem? (i := 15) rfl)) (jWr_29 _ (List.mem_of_getElem? (i := 16) rfl)) (jWr_29 _ (List.mem_of_getElem? (i := 17) rfl)) (jWr_1 _ (List.mem_of_getElem? (i := 2) rfl)) (jWr_29 _ (List.mem_of_getElem? (i := 18) rfl))) rfl rfl rfl (by decide +kernel) ⟨by rw [← hR]; exact Nat.le_of_ble_eq_true rfl, by rw [← hR]; exact Nat.le_of_ble_eq_true rfl⟩) ⟨fun a U g mk q => by obtain ⟨q0, q1, q2, qK, q10, q11, q12, q13, q14, q15, q16, q17, q18, q19, q20, q21⟩ := q; exact ⟨q0, q1, q2, jG.calling g mk a qK, (va_K.moved (Vm.Alike.refl U.vm) q10), (jK5.moved (Vm.Alike.refl U.vm) q11), (jK7.calling g mk a q12), q13, q14, q15, q16, q17, q18, q19, q20, q21⟩, hh_101.recv (C := RX11) (T := TX11) (N := 19) hB13 rfl (by decide) hg_r0 hK, fun U hU hW => ⟨rfl, hU, hh_101.2.1, hG.step hW hU hh_101.1, va_K.moved hW.alike hK2, jK5.moved hW.alike hK5, (hK7.step hW hU hh_101.1), hg_r0, hg_r1, (hr_102b), hg_bo, hg_pa, hg_ou, (hh_101.2.2.1.sub (L1 := [(r0, 13, 4, .ref bo), (bo, 2, 1, .int pc), (bo, 2, 0, .ref pa), (r0, 13, 3, .ref ou)]) [1, 2, 3, 4] rfl), (hh_101.2.2.2.2.2.2.2.2.sub (L1 := [(jFy, jYb dC dI G0), (jFs11, jSef dC dI G0), (jFl, jLs dC dI ca G0 3 none)]) [2, 3, 0] rfl), (by omega), (by omega), ⟨(by first | omega | rfl | assumption | fail), (by first | omega | rfl | assumption | fail), (by first | omega | rfl | assumption | fail), (by first | omega | rfl | assumption | fail), (by first | assumption | fail | omega)⟩⟩⟩ rfl rfl hl.1 rfl (lv_room (Nat.le_of_ble_eq_true rfl)) dX11_request_171 ⟨by rw [hRc]; omega, by rw [hRs]; omega⟩) hh_101.1 (fun q _ h => h) (fun q h => h) (fun u_103 t_103 H_103 locs_103 ht_103 hvm_103 hr_104 hb_103 hz_103 hk_103 hS_103 => ?_)
              obtain ⟨qc_103, qa_103, m_qa_103, G_103⟩ := u_103
              rw [ht_103] at hb_103
              simp only at hb_103
              obtain ⟨⟨hb_1031, hb_1032, hb_1033, hb_1034, hb_1035, hb_1036⟩, hgq_103_0, hN_103, hbO_103, hbE_103⟩ := hb_103
              have hh_103 : jSt (dC, dI) B base G0 G_103 EX11_request s.heap (0 + ((m_qa_103 - n_pa) / 16 + 1)) (0 + (2 * (m_qa_103 - n_pa) + 40)) [(bo, 2, 1, .int qc_103), (bo, 2, 0, .ref qa_103), (r0, 13, 11, .int phase_8), (r0, 13, 4, .ref bo), (r0, 13, 3, .ref ou), (r0, 13, 2, .ref js), (js, 6, 7, .int pv), (js, 6, 8, .int pu), (js, 6, 0, .ref wk), (js, 6, 1, .ref wi), (js, 6, 2, .ref wz), (js, 6, 5, .ref jks)] [(wk, 140, 1502, ca 1, fk), (wi, 141, 1502, ca 1, fi), (wz, 142, 1502, ca 1, fz), (jks, 145, 1502, ca 1, fs)] [] H_103 locs_103 := (hh_101.callG hb_1031 hb_1032 hb_1033 hb_1034 hb_1035 hS_103 rfl (L1 := [(r0, 13, 11, .int phase_8), (r0, 13, 4, .ref bo), (r0, 13, 3, .ref ou), (r0, 13, 2, .ref js), (js, 6, 7, .int pv), (js, 6, 8, .int pu), (js, 6, 0, .ref wk), (js, 6, 1, .ref wi), (js, 6, 2, .ref wz), (js, 6, 5, .ref jks)]) [0, 1, 4, 5, 6, 7, 8, 9, 10, 11] rfl rfl (M1 := [(wk, 140, 1502, ca 1, fk), (wi, 141, 1502, ca 1, fi), (wz, 142, 1502, ca 1, fz), (jks, 145, 1502, ca 1, fs)]) [0, 1, 2, 3] rfl rfl (I1 := []) [] rfl rfl).more hb_1036
              have hNn_103 : (jNk [0, 1, 2, 3, 4, 5, 6, 7, 8, 9, 10, 11, 12, 13, 14, 15, 16]) G0 G_103 := (jNk.rf).tr hN_103
              have hg_105 := hb_1032 _ _ hg_r0
              have hg_106 := hb_1032 _ _ hg_r1
              have hg_107 := hb_1032 _ _ hg_bo
              have hg_108 := hb_1032 _ _ hg_ou
              have hg_109 := hb_1032 _ _ hg_js
              have hg_110 := hb_1032 _ _ hg_wk
              have hg_111 := hb_1032 _ _ hg_wi
              have hg_112 := hb_1032 _ _ hg_wz
              have hg_113 := hb_1032 _ _ hg_jks
              have hh_114 := hh_103.addIs hbE_103
              have hd_115 := jOl.trL (hh_101.iv 1 rfl) hh_101.2.2.2.2.1 hbO_103 (by simp)
              have hh_116 := hh_114.addI (jOl.ie (dC := dC) (dI := dI) (G0 := G0) (k := 2) (rs := [bo, ou]) (H0 := s.heap) (F := [(2, 0), (2, 1)]) (C := RX0) (T := TX0) (N := 2) rfl (by decide) hh_114.2.2.2.2.1 (hd_115))
              clear hh_114
              try simp only at hr_104
              obtain ⟨hr_104_0, hr_104_1, hr_104_2, hr_104_3, hr_104_4⟩ := hr_104
              have hh_117 := hh_116.wk (zc1 := (m_qa_103 - n_pa) / 16 + 2) (zs1 := 2 * (m_qa_103 - n_pa) + 40 + pu.toInt.toNat) (by omega) (by omega)
              clear hh_116
              try clear hsz_103 htt_103 hrc_103 hrs_103
              try clear hb_1034 hb_1035
              refine lv_goto (tgt := 212) hx hb dX11_request_174 (by decide) ?_
              have hsz_118 := hh_117.2.2.2.2.2.1
              have htt_118 := hh_117.2.2.2.2.2.2.1
              refine W.room (fun hrc_118 hrs_118 => ?_)
              refine W.widen (k := LC - s.heap.size) (n := LS - jTot s.heap) (by omega) (by omega) ?_
              rw [hQ]
              exact W.vret hx hb hr (fun t ht hW => ⟨⟨(qc_103, qa_103, m_qa_103, G_103), rfl, by (try dsimp only); exact ⟨(by first | omega | rfl | assumption | fail), (by first | omega | rfl | assumption | fail), (by first | omega | rfl | assumption | fail), (by first | omega | rfl | assumption | fail), (by first | assumption | fail | omega)⟩, ⟨hh_117.ra (by first | omega | (simp only; omega)) (by first | omega | (simp only; omega)) (M1 := [(bo, 2, 1, .int qc_103), (bo, 2, 0, .ref qa_103)]) [0, 1] rfl ht, hgq_103_0, hNn_103, by rw [ht]; exact hh_117.iv 0 rfl, by rw [ht]; exact hh_117.2.2.2.2.2.2.2.2.sub (L1 := [(jFy, jYb dC dI G_103), (jFs11, jSef dC dI G_103), (jFl, jLs dC dI ca G_103 3 none)]) [1, 2, 3] rfl⟩⟩, by rw [ht]; try exact hh_117.1.1, fun q h9 hq => by rw [ht]; try exact hh_117.1.2.1 q h9 hq⟩) hh_117.1.2.2 dX11_request_212
          · skip
            have c_37' : r_36.toInt ≠ 0 := jb_eq_n (rfl) ((by decide)) c_37
            first | (have hr_3_2q := hr_3_2.resolve_left (by omega); clear hr_3_2) | (have hr_3_2q := hr_3_2.resolve_right (by omega); clear hr_3_2) | skip
            first | (have hr_5pq := hr_5p.resolve_left (by omega); clear hr_5p) | (have hr_5pq := hr_5p.resolve_right (by omega); clear hr_5p) | skip
            first | (have hr_36pq := hr_36p.resolve_left (by omega); clear hr_36p) | (have hr_36pq := hr_36p.resolve_right (by omega); clear hr_36p) | try clear hr_36p
            refine lv_aload_n hx hb dX11_request_120 rfl (lv_at hl 2 rfl) ?_
            refine lv_iconst (v := 2) hx hb dX11_request_121 (by decide) ?_
            refine j7_put hx hb hown hK hh_35 hB hAp hB13 (C := RX11) (T := TX11) (N := 19) rfl (by decide) hg_r0 (i := 11) (by decide) hly_13_11 rfl hlk_77 rfl (ty := .int) (v := .int 2) (by decide +kernel) rfl rfl (⟨_, rfl, by omega, by omega⟩) rfl (L1 := [(r0, 13, 4, .ref bo), (bo, 2, 1, .int pc), (bo, 2, 0, .ref pa), (r0, 13, 3, .ref ou), (r0, 13, 2, .ref js), (js, 6, 7, .int pv), (js, 6, 8, .int pu), (js, 6, 0, .ref wk), (js, 6, 1, .ref wi), (js, 6, 2, .ref wz), (js, 6, 5, .ref jks)]) [1, 2, 3, 4, 5, 6, 7, 8, 9, 10, 11] rfl rfl rfl dX11_request_122 (fun H_119 locs_119 hh_119 => ?_)
            clear hh_35
            refine lv_aload_n hx hb dX11_request_125 rfl (lv_at hl 2 rfl) ?_
            refine lv_aload_n hx hb dX11_request_126 rfl (lv_at hl 3 rfl) ?_
            refine j_ldcSw hx hb hown rstr289 dX11_request_127 ?_
            have hsz_120 := hh_119.2.2.2.2.2.1
            have htt_120 := hh_119.2.2.2.2.2.2.1
            refine W.room (fun hrc_120 hrs_120 => ?_)
            refine va_callv (A0 := jA base) (H0 := s.heap) (va_runV (As := [.ref r1, .ref str289]) (rest := []) ⟨hx, hb, hml, hown, hts⟩ (uX11_beginAnswer l dC dI ca base B hB hAp hB2 hB10 hB13 hB196 G0 H_119 r0 r1 str289 10 bo pc pa n_pa LC LS) (cwV 2 hts (jgV (jWr_26 _ (List.mem_of_getElem? (i := 7) rfl)) (jWr_26 _ (List.mem_of_getElem? (i := 8) rfl)) (jWr_26 _ (List.mem_of_getElem? (i := 9) rfl)) (jWr_1 _ (List.mem_of_getElem? (i := 2) rfl)) (jWr_26 _ (List.mem_of_getElem? (i := 10) rfl))) rfl rfl rfl (by decide +kernel) ⟨by rw [← hR]; exact Nat.le_of_ble_eq_true rfl, by rw [← hR]; exact Nat.le_of_ble_eq_true rfl⟩) ⟨fun a U g mk q => by obtain ⟨q0, q1, q2, qK, q10, q11, q12, q13, q14, q15, q16, q17⟩ := q; exact ⟨q0, q1, q2, jG.calling g mk a qK, (q10.moved (Vm.Alike.refl U.vm)), q11, q12, q13, q14, q15, q16, q17⟩, hh_119.recv (C := RX11) (T := TX11) (N := 19) hB13 rfl (by decide) hg_r0 hK, fun U hU hW => ⟨rfl, hU, hh_119.2.1, hG.step hW hU hh_119.1, (hstr289.moved hW.alike).kept hh_119.1.2.1, hg_r1, hg_r0, hg_bo, hg_pa, (hh_119.2.2.1.sub (L1 := [(r0, 13, 4, .ref bo), (bo, 2, 1, .int pc), (bo, 2, 0, .ref pa)]) [1, 2, 3] rfl), (hh_119.2.2.2.2.2.2.2.2.sub (L1 := [(jFy, jYb dC dI G0)]) [1] rfl), (by omega), (by omega), ⟨(by first | omega | rfl | assumption | fail), (by first | omega | rfl | assumption | fail), (by first | omega | rfl | assumption | fail), (by first | omega | rfl | assumption | fail), (by first | assumption | fail | omega), (by first | omega | rfl | assumption | fail)⟩⟩⟩ rfl rfl hl.1 rfl (lv_room (Nat.le_of_ble_eq_true rfl)) dX11_request_130 ⟨by rw [hRc]; omega, by rw [hRs]; omega⟩) hh_119.1 (fun q _ h => h) (fun q h => h) (fun u_120 t_120 H_120 locs_120 ht_120 hvm_120 hr_121 hb_120 hz_120 hk_120 hS_120 => ?_)
            obtain ⟨qc_120, qa_120, m_qa_120, G_120⟩ := u_120
            rw [ht_120] at hb_120
            simp only at hb_120
            obtain ⟨⟨hb_1201, hb_1202, hb_1203, hb_1204, hb_1205, hb_1206⟩, hgq_120_0, hN_120, hbO_120, hbE_120⟩ := hb_120
            have hh_120 : jSt (dC, dI) B base G0 G_120 EX11_request s.heap (0 + ((m_qa_120 - n_pa) / 16)) (0 + (2 * (m_qa_120 - n_pa))) [(bo, 2, 1, .int qc_120), (bo, 2, 0, .ref qa_120), (r0, 13, 11, .int 2), (r0, 13, 4, .ref bo), (r0, 13, 3, .ref ou), (r0, 13, 2, .ref js), (js, 6, 7, .int pv), (js, 6, 8, .int pu), (js, 6, 0, .ref wk), (js, 6, 1, .ref wi), (js, 6, 2, .ref wz), (js, 6, 5, .ref jks)] [(wk, 140, 1502, ca 1, fk), (wi, 141, 1502, ca 1, fi), (wz, 142, 1502, ca 1, fz), (jks, 145, 1502, ca 1, fs)] [(jFs11, jSef dC dI G0), (jFl, jLs dC dI ca G0 3 none)] H_120 locs_120 := (hh_119.callG hb_1201 hb_1202 hb_1203 hb_1204 hb_1205 hS_120 rfl (L1 := [(r0, 13, 11, .int 2), (r0, 13, 4, .ref bo), (r0, 13, 3, .ref ou), (r0, 13, 2, .ref js), (js, 6, 7, .int pv), (js, 6, 8, .int pu), (js, 6, 0, .ref wk), (js, 6, 1, .ref wi), (js, 6, 2, .ref wz), (js, 6, 5, .ref jks)]) [0, 1, 4, 5, 6, 7, 8, 9, 10, 11] rfl rfl (M1 := [(wk, 140, 1502, ca 1, fk), (wi, 141, 1502, ca 1, fi), (wz, 142, 1502, ca 1, fz), (jks, 145, 1502, ca 1, fs)]) [0, 1, 2, 3] rfl rfl (I1 := [(jFs11, jSef dC dI G0), (jFl, jLs dC dI ca G0 3 none)]) [2, 3] rfl rfl).more hb_1206
            have hNn_120 : (jNk [0, 1, 2, 3, 4, 5, 6, 7, 8, 9, 10, 11, 12, 13, 14, 15, 16]) G0 G_120 := (jNk.rf).tr hN_120
            have hg_122 := hb_1202 _ _ hg_r0
            have hg_123 := hb_1202 _ _ hg_r1
            have hg_124 := hb_1202 _ _ hg_bo
            have hg_125 := hb_1202 _ _ hg_ou
            have hg_126 := hb_1202 _ _ hg_js
            have hg_127 := hb_1202 _ _ hg_wk
            have hg_128 := hb_1202 _ _ hg_wi
            have hg_129 := hb_1202 _ _ hg_wz
            have hg_130 := hb_1202 _ _ hg_jks
            have hd_131 := jSef.grow (hh_120.iv 0 rfl) hb_1202 hN_120 (by decide)
            have hh_132 := hh_120.sub (L1 := [(bo, 2, 1, .int qc_120), (bo, 2, 0, .ref qa_120), (r0, 13, 11, .int 2), (r0, 13, 4, .ref bo), (r0, 13, 3, .ref ou), (r0, 13, 2, .ref js), (js, 6, 7, .int pv), (js, 6, 8, .int pu), (js, 6, 0, .ref wk), (js, 6, 1, .ref wi), (js, 6, 2, .ref wz), (js, 6, 5, .ref jks)]) [0, 1, 2, 3, 4, 5, 6, 7, 8, 9, 10, 11] rfl (M1 := [(wk, 140, 1502, ca 1, fk), (wi, 141, 1502, ca 1, fi), (wz, 142, 1502, ca 1, fz), (jks, 145, 1502, ca 1, fs)]) [0, 1, 2, 3] rfl (I1 := [(jFl, jLs dC dI ca G0 3 none)]) [1] rfl
            clear hh_120
            have hh_133 := hh_132.addI (jSef.ie hd_131)
            clear hh_132
            have hd_134 := jLs.grow (hh_133.iv 1 rfl) hb_1202 hN_120 (by decide)
            have hh_135 := hh_133.sub (L1 := [(bo, 2, 1, .int qc_120), (bo, 2, 0, .ref qa_120), (r0, 13, 11, .int 2), (r0, 13, 4, .ref bo), (r0, 13, 3, .ref ou), (r0, 13, 2, .ref js), (js, 6, 7, .int pv), (js, 6, 8, .int pu), (js, 6, 0, .ref wk), (js, 6, 1, .ref wi), (js, 6, 2, .ref wz), (js, 6, 5, .ref jks)]) [0, 1, 2, 3, 4, 5, 6, 7, 8, 9, 10, 11] rfl (M1 := [(wk, 140, 1502, ca 1, fk), (wi, 141, 1502, ca 1, fi), (wz, 142, 1502, ca 1, fz), (jks, 145, 1502, ca 1, fs)]) [0, 1, 2, 3] rfl (I1 := [(jFs11, jSef dC dI G_120)]) [0] rfl
            clear hh_133
            have hh_136 := hh_135.addI (jLs.ie hd_134)
            clear hh_135
            have hh_137 := hh_136.addIs hbE_120
            have hd_138 := jOl.trL (hh_119.iv 0 rfl) hh_119.2.2.2.2.1 hbO_120 (by simp)
            have hh_139 := hh_137.addI (jOl.ie (dC := dC) (dI := dI) (G0 := G0) (k := 2) (rs := [bo, ou]) (H0 := s.heap) (F := [(2, 0), (2, 1)]) (C := RX0) (T := TX0) (N := 2) rfl (by decide) hh_137.2.2.2.2.1 (hd_138))
            clear hh_137
            try simp only at hr_121
            obtain ⟨hr_121_0, hr_121_1, hr_121_2, hr_121_3, hr_121_4⟩ := hr_121
            have hh_140 := hh_139.wk (zc1 := (m_qa_120 - n_pa) / 16 + 2) (zs1 := 2 * (m_qa_120 - n_pa) + 40 + pu.toInt.toNat) (by omega) (by omega)
            clear hh_139
            try clear hsz_120 htt_120 hrc_120 hrs_120
            try clear hb_1204 hb_1205
            refine lv_aload_n hx hb dX11_request_133 rfl (lv_at hl 2 rfl) ?_
            refine j7_read hx hb hown hK (C := RX11) (T := TX11) (N := 19) rfl hly_13_4 hlk_35 (hh_140.at 3 rfl) dX11_request_134 ?_
            refine j_ldcSw hx hb hown rstr305 dX11_request_137 ?_
            have hsz_141 := hh_140.2.2.2.2.2.1
            have htt_141 := hh_140.2.2.2.2.2.2.1
            refine W.room (fun hrc_141 hrs_141 => ?_)
            refine va_callv (A0 := jA base) (H0 := s.heap) (va_runV (As := [.ref str305]) (rest := []) ⟨hx, hb, hml, hown, hts⟩ (uX0_text l dC dI ca base B hB hAp hB2 hB196 G_120 H_120 bo str305 5 qc_120 qa_120 m_qa_120 LC LS) (cwV 1 hts (jgV (jWr_26 _ (List.mem_of_getElem? (i := 11) rfl)) (jWr_25 _ (List.mem_of_getElem? (i := 22) rfl)) (jWr_25 _ (List.mem_of_getElem? (i := 23) rfl)) (jWr_1 _ (List.mem_of_getElem? (i := 14) rfl)) (jWr_26 _ (List.mem_of_getElem? (i := 0) rfl))) rfl rfl rfl (by decide +kernel) ⟨by rw [← hR]; exact Nat.le_of_ble_eq_true rfl, by rw [← hR]; exact Nat.le_of_ble_eq_true rfl⟩) ⟨fun a U g mk q => by obtain ⟨q0, q1, q2, qK, q10, q11, q12, q13, q14⟩ := q; exact ⟨q0, q1, q2, jG.calling g mk a qK, (q10.moved (Vm.Alike.refl U.vm)), q11, q12, q13, q14⟩, hh_140.recv (C := RX0) (T := TX0) (N := 2) hB2 rfl (by decide) hg_124 hK, fun U hU hW => ⟨rfl, hU, hh_140.2.1, hG.step hW hU hh_140.1, (hstr305.moved hW.alike).kept hh_140.1.2.1, hg_124, hgq_120_0, (hh_140.2.2.1.sub (L1 := [(bo, 2, 1, .int qc_120), (bo, 2, 0, .ref qa_120)]) [0, 1] rfl), (by omega), (by omega), ⟨(by first | omega | rfl | assumption | fail), (by first | omega | rfl | assumption | fail), (by first | omega | rfl | assumption | fail), (by first | omega | rfl | assumption | fail), (by first | assumption | fail | omega), (by first | omega | rfl | assumption | fail)⟩⟩⟩ rfl rfl hl.1 rfl (lv_room (Nat.le_of_ble_eq_true rfl)) dX11_request_140 ⟨by rw [hRc]; omega, by rw [hRs]; omega⟩) hh_140.1 (fun q _ h => h) (fun q h => h) (fun u_141 t_141 H_141 locs_141 ht_141 hvm_141 hr_142 hb_141 hz_141 hk_141 hS_141 => ?_)
            obtain ⟨qc_141, qa_141, m_qa_141, G_141⟩ := u_141
            rw [ht_141] at hb_141
            simp only at hb_141
            obtain ⟨⟨hb_1411, hb_1412, hb_1413, hb_1414, hb_1415, hb_1416⟩, hgq_141_0, hN_141, hbO_141⟩ := hb_141
            have hy_143 := hh_140.iv 1 rfl
            have hh_141 : jSt (dC, dI) B base G0 G_141 EX11_request s.heap (((m_qa_120 - n_pa) / 16 + 2) + ((m_qa_141 - m_qa_120) / 16)) ((2 * (m_qa_120 - n_pa) + 40 + pu.toInt.toNat) + (2 * (m_qa_141 - m_qa_120))) [(bo, 2, 1, .int qc_141), (bo, 2, 0, .ref qa_141), (r0, 13, 11, .int 2), (r0, 13, 4, .ref bo), (r0, 13, 3, .ref ou), (r0, 13, 2, .ref js), (js, 6, 7, .int pv), (js, 6, 8, .int pu), (js, 6, 0, .ref wk), (js, 6, 1, .ref wi), (js, 6, 2, .ref wz), (js, 6, 5, .ref jks)] [(wk, 140, 1502, ca 1, fk), (wi, 141, 1502, ca 1, fi), (wz, 142, 1502, ca 1, fz), (jks, 145, 1502, ca 1, fs)] [(jFl, jLs dC dI ca G_120 3 none), (jFs11, jSef dC dI G_120)] H_141 locs_141 := (hh_140.callG hb_1411 hb_1412 hb_1413 hb_1414 hb_1415 hS_141 rfl (L1 := [(r0, 13, 11, .int 2), (r0, 13, 4, .ref bo), (r0, 13, 3, .ref ou), (r0, 13, 2, .ref js), (js, 6, 7, .int pv), (js, 6, 8, .int pu), (js, 6, 0, .ref wk), (js, 6, 1, .ref wi), (js, 6, 2, .ref wz), (js, 6, 5, .ref jks)]) [2, 3, 4, 5, 6, 7, 8, 9, 10, 11] rfl rfl (M1 := [(wk, 140, 1502, ca 1, fk), (wi, 141, 1502, ca 1, fi), (wz, 142, 1502, ca 1, fz), (jks, 145, 1502, ca 1, fs)]) [0, 1, 2, 3] rfl rfl (I1 := [(jFl, jLs dC dI ca G_120 3 none), (jFs11, jSef dC dI G_120)]) [2, 3] rfl rfl).more hb_1416
            have hNn_141 : (jNk [0, 1, 2, 3, 4, 5, 6, 7, 8, 9, 10, 11, 12, 13, 14, 15, 16]) G0 G_141 := (hNn_120).tr hN_141
            have hg_144 := hb_1412 _ _ hg_122
            have hg_145 := hb_1412 _ _ hg_123
            have hg_146 := hb_1412 _ _ hg_124
            have hg_147 := hb_1412 _ _ hg_125
            have hg_148 := hb_1412 _ _ hg_126
            have hg_149 := hb_1412 _ _ hg_127
            have hg_150 := hb_1412 _ _ hg_128
            have hg_151 := hb_1412 _ _ hg_129
            have hg_152 := hb_1412 _ _ hg_130
            have hd_153 := jLs.grow (hh_141.iv 0 rfl) hb_1412 hN_141 (by decide)
            have hh_154 := hh_141.sub (L1 := [(bo, 2, 1, .int qc_141), (bo, 2, 0, .ref qa_141), (r0, 13, 11, .int 2), (r0, 13, 4, .ref bo), (r0, 13, 3, .ref ou), (r0, 13, 2, .ref js), (js, 6, 7, .int pv), (js, 6, 8, .int pu), (js, 6, 0, .ref wk), (js, 6, 1, .ref wi), (js, 6, 2, .ref wz), (js, 6, 5, .ref jks)]) [0, 1, 2, 3, 4, 5, 6, 7, 8, 9, 10, 11] rfl (M1 := [(wk, 140, 1502, ca 1, fk), (wi, 141, 1502, ca 1, fi), (wz, 142, 1502, ca 1, fz), (jks, 145, 1502, ca 1, fs)]) [0, 1, 2, 3] rfl (I1 := [(jFs11, jSef dC dI G_120)]) [1] rfl
            clear hh_141
            have hh_155 := hh_154.addI (jLs.ie hd_153)
            clear hh_154
            have hd_156 := jSef.grow (hh_155.iv 1 rfl) hb_1412 hN_141 (by decide)
            have hh_157 := hh_155.sub (L1 := [(bo, 2, 1, .int qc_141), (bo, 2, 0, .ref qa_141), (r0, 13, 11, .int 2), (r0, 13, 4, .ref bo), (r0, 13, 3, .ref ou), (r0, 13, 2, .ref js), (js, 6, 7, .int pv), (js, 6, 8, .int pu), (js, 6, 0, .ref wk), (js, 6, 1, .ref wi), (js, 6, 2, .ref wz), (js, 6, 5, .ref jks)]) [0, 1, 2, 3, 4, 5, 6, 7, 8, 9, 10, 11] rfl (M1 := [(wk, 140, 1502, ca 1, fk), (wi, 141, 1502, ca 1, fi), (wz, 142, 1502, ca 1, fz), (jks, 145, 1502, ca 1, fs)]) [0, 1, 2, 3] rfl (I1 := [(jFl, jLs dC dI ca G_141 3 none)]) [0] rfl
            clear hh_155
            have hh_158 := hh_157.addI (jSef.ie hd_156)
            clear hh_157
            have hd_159 := jOl.trO (hh_140.iv 0 rfl) hh_140.2.2.2.2.1 hbO_141 (by simp)
            have hh_160 := hh_158.addI (jOl.ie (dC := dC) (dI := dI) (G0 := G0) (k := 2) (rs := [bo, ou]) (H0 := s.heap) (F := [(2, 0), (2, 1)]) (C := RX0) (T := TX0) (N := 2) rfl (by decide) hh_158.2.2.2.2.1 (hd_159))
            clear hh_158
            have hyp_141 : qc_141.toInt ≤ (m_qa_141 : Nat) ∧ m_qa_141 ≤ 1048576 := by (try simp only at hr_142); omega
            have hy_161 := jYb.own hy_143 hbO_141 hb_1412 hN_141 (by decide) (fun _ => ⟨_, _, _, hh_160.at 0 rfl, hh_160.at 1 rfl, hgq_141_0, hyp_141⟩)
            have hh_162 := hh_160.addI (jYb.ie hy_161)
            clear hh_160
            try simp only at hr_142
            obtain ⟨hr_142_0, hr_142_1, hr_142_2, hr_142_3, hr_142_4⟩ := hr_142
            have hh_163 := hh_162.wk (zc1 := (m_qa_141 - n_pa) / 16 + 2) (zs1 := 2 * (m_qa_141 - n_pa) + 40 + pu.toInt.toNat) (by omega) (by omega)
            clear hh_162
            try clear hsz_141 htt_141 hrc_141 hrs_141
            try clear hb_1414 hb_1415
            refine lv_aload_n hx hb dX11_request_143 rfl (lv_at hl 2 rfl) ?_
            obtain ⟨v_166, hv_166, hh_167⟩ := hh_163.pin (C := RX0) (T := TX0) (N := 2) hB2 rfl (by decide) hg_147 (i := 1) (by decide) rfl
            obtain ⟨count_168, rfl, hlocount_168, hhicount_168, hfxcount_168⟩ := hv_166
            obtain ⟨v_169, hv_169, hh_170⟩ := hh_167.pin (C := RX0) (T := TX0) (N := 2) hB2 rfl (by decide) hg_147 (i := 0) (by decide) rfl
            obtain ⟨row_171, nrow_171, rfl, hg_row_171, hlorow_171, hhirow_171, hpwrow_171, hfxrow_171⟩ := jBr.k6 (by decide) hv_169
            have hsz_164 := hh_170.2.2.2.2.2.1
            have htt_164 := hh_170.2.2.2.2.2.2.1
            refine W.room (fun hrc_164 hrs_164 => ?_)
            refine va_callv (A0 := jA base) (H0 := s.heap) (va_runV (As := []) (rest := []) ⟨hx, hb, hml, hown, hts⟩ (uX11_send l dC dI ca base B hB hAp hB2 hB4 hB13 hB196 G_141 H_141 r0 bo qc_141 qa_141 m_qa_141 ou count_168 row_171 nrow_171) (cwV 0 hts (jgV (jWr_26 _ (List.mem_of_getElem? (i := 20) rfl)) (jWr_26 _ (List.mem_of_getElem? (i := 21) rfl)) (jWr_26 _ (List.mem_of_getElem? (i := 22) rfl)) (jWr_1 _ (List.mem_of_getElem? (i := 2) rfl)) (jWr_26 _ (List.mem_of_getElem? (i := 23) rfl))) rfl rfl rfl (by decide +kernel) ⟨by rw [← hR]; exact Nat.le_of_ble_eq_true rfl, by rw [← hR]; exact Nat.le_of_ble_eq_true rfl⟩) ⟨fun a U g mk q => by obtain ⟨q0, q1, q2, qK, q10, q11, q12, q13, q14, q15, q16, q17⟩ := q; exact ⟨q0, q1, q2, jG.calling g mk a qK, q10, q11, q12, q13, q14, q15, q16, q17⟩, hh_170.recv (C := RX11) (T := TX11) (N := 19) hB13 rfl (by decide) hg_144 hK, fun U hU hW => ⟨rfl, hU, hh_170.2.1, hG.step hW hU hh_170.1, hg_144, hg_146, hgq_141_0, hg_147, hg_row_171, (hh_170.2.2.1.sub (L1 := [(r0, 13, 4, .ref bo), (bo, 2, 1, .int qc_141), (bo, 2, 0, .ref qa_141), (r0, 13, 3, .ref ou), (ou, 2, 1, .int count_168), (ou, 2, 0, .ref row_171)]) [5, 2, 3, 6, 1, 0] rfl), (hh_170.2.2.2.2.2.2.2.2.sub (L1 := [(jFy, jYb dC dI G_141)]) [0] rfl), ⟨(by first | omega | rfl | assumption | fail), (by first | omega | rfl | assumption | fail), (by first | omega | rfl | assumption | fail), (by first | omega | rfl | assumption | fail), (by first | omega | rfl | assumption | fail), (by first | omega | rfl | assumption | fail)⟩⟩⟩ rfl rfl hl.1 rfl (lv_room (Nat.le_of_ble_eq_true rfl)) dX11_request_144 ⟨by rw [hRc]; show _ + 0 ≤ _; omega, by rw [hRs]; show _ + 0 ≤ _; omega⟩) hh_170.1 (fun q _ h => h) (fun q h => h) (fun u_164 t_164 H_164 locs_164 ht_164 hvm_164 hr_165 hb_164 hz_164 hk_164 hS_164 => ?_)
            rw [ht_164] at hb_164
            obtain ⟨hb_164, hbE_164⟩ := hb_164
            obtain ⟨hb_164, hbO_164⟩ := hb_164
            obtain ⟨hb_1641, hb_1642, hb_1643, hb_1644, hb_1645⟩ := hb_164
            have hh_164 : jSt (dC, dI) B base G0 G_141 EX11_request s.heap ((m_qa_141 - n_pa) / 16 + 2) (2 * (m_qa_141 - n_pa) + 40 + pu.toInt.toNat) [(r0, 13, 11, .int 2), (r0, 13, 4, .ref bo), (r0, 13, 3, .ref ou), (r0, 13, 2, .ref js), (js, 6, 7, .int pv), (js, 6, 8, .int pu), (js, 6, 0, .ref wk), (js, 6, 1, .ref wi), (js, 6, 2, .ref wz), (js, 6, 5, .ref jks)] [(wk, 140, 1502, ca 1, fk), (wi, 141, 1502, ca 1, fi), (wz, 142, 1502, ca 1, fz), (jks, 145, 1502, ca 1, fs)] [(jFy, jYb dC dI G_141), (jFs11, jSef dC dI G_141), (jFl, jLs dC dI ca G_141 3 none)] H_164 locs_164 := (((hh_170.call hb_1641 hb_1642 hb_1643 hb_1644 hS_164 rfl (L1 := [(r0, 13, 11, .int 2), (r0, 13, 4, .ref bo), (r0, 13, 3, .ref ou), (r0, 13, 2, .ref js), (js, 6, 7, .int pv), (js, 6, 8, .int pu), (js, 6, 0, .ref wk), (js, 6, 1, .ref wi), (js, 6, 2, .ref wz), (js, 6, 5, .ref jks)]) [4, 5, 6, 7, 8, 9, 10, 11, 12, 13] rfl rfl (M1 := [(wk, 140, 1502, ca 1, fk), (wi, 141, 1502, ca 1, fi), (wz, 142, 1502, ca 1, fz), (jks, 145, 1502, ca 1, fs)]) [0, 1, 2, 3] rfl rfl (I1 := [(jFs11, jSef dC dI G_141), (jFl, jLs dC dI ca G_141 3 none)]) [2, 3] rfl rfl).more hb_1645)).addIs hbE_164
            have hh_172 := hh_164.more (P1 := [(bo, 2, 1, .int qc_141), (bo, 2, 0, .ref qa_141)]) (jP.cons hg_146 (hbO_164 _ _ _ _ (jn1 (by first | assumption | exact Ne.symm (by assumption) | exact jnek hg_146 hg_147 (by decide))) hg_146 (hh_170.at 2 rfl)) (jP.cons hg_146 (hbO_164 _ _ _ _ (jn1 (by first | assumption | exact Ne.symm (by assumption) | exact jnek hg_146 hg_147 (by decide))) hg_146 (hh_170.at 3 rfl)) jP.nil))
            have hd_173 := jOl.trL (hh_170.iv 1 rfl) hh_170.2.2.2.2.1 hbO_164 (by simp)
            have hh_174 := hh_172.addI (jOl.ie (dC := dC) (dI := dI) (G0 := G0) (k := 2) (rs := [bo, ou]) (H0 := s.heap) (F := [(2, 0), (2, 1)]) (C := RX0) (T := TX0) (N := 2) rfl (by decide) hh_172.2.2.2.2.1 (hd_173))
            clear hh_172
            clear hh_170 ht_164 hvm_164 hz_164 hk_164 hS_164 hb_1641 hb_1642 hb_1643 hb_1644 hb_1645
            clear  hbE_164
            refine lv_goto (tgt := 212) hx hb dX11_request_147 (by decide) ?_
            have hsz_175 := hh_174.2.2.2.2.2.1
            have htt_175 := hh_174.2.2.2.2.2.2.1
            refine W.room (fun hrc_175 hrs_175 => ?_)
            refine W.widen (k := LC - s.heap.size) (n := LS - jTot s.heap) (by omega) (by omega) ?_
            rw [hQ]
            exact W.vret hx hb hr (fun t ht hW => ⟨⟨(qc_141, qa_141, m_qa_141, G_141), rfl, by (try dsimp only); exact ⟨(by first | omega | rfl | assumption | fail), (by first | omega | rfl | assumption | fail), (by first | omega | rfl | assumption | fail), (by first | omega | rfl | assumption | fail), (by first | assumption | fail | omega)⟩, ⟨hh_174.ra (by first | omega | (simp only; omega)) (by first | omega | (simp only; omega)) (M1 := [(bo, 2, 1, .int qc_141), (bo, 2, 0, .ref qa_141)]) [0, 1] rfl ht, hgq_141_0, hNn_141, by rw [ht]; exact hh_174.iv 0 rfl, by rw [ht]; exact hh_174.2.2.2.2.2.2.2.2.sub (L1 := [(jFy, jYb dC dI G_141), (jFs11, jSef dC dI G_141), (jFl, jLs dC dI ca G_141 3 none)]) [1, 2, 3] rfl⟩⟩, by rw [ht]; try exact hh_174.1.1, fun q h9 hq => by rw [ht]; try exact hh_174.1.2.1 q h9 hq⟩) hh_174.1.2.2 dX11_request_212
        · skip
          have c_34' : r_5.toInt ≠ 0 := jb_eq_n (rfl) ((by decide)) c_34
          first | (have hr_3_2q := hr_3_2.resolve_left (by omega); clear hr_3_2) | (have hr_3_2q := hr_3_2.resolve_right (by omega); clear hr_3_2) | skip
          first | (have hr_5pq := hr_5p.resolve_left (by omega); clear hr_5p) | (have hr_5pq := hr_5p.resolve_right (by omega); clear hr_5p) | skip
          refine lv_aload_n hx hb dX11_request_95 rfl (lv_at hl 2 rfl) ?_
          refine lv_aload_n hx hb dX11_request_96 rfl (lv_at hl 3 rfl) ?_
          refine lv_sipush (v := (-32600)) hx hb dX11_request_97 (by decide) ?_
          have hsz_176 := hh_7.2.2.2.2.2.1
          have htt_176 := hh_7.2.2.2.2.2.2.1
          refine W.room (fun hrc_176 hrs_176 => ?_)
          refine va_callv (A0 := jA base) (H0 := s.heap) (va_runV (As := [.ref r1, .int (-32600)]) (rest := []) ⟨hx, hb, hml, hown, hts⟩ (uX11_refuse l dC dI ca base B hB hAp hB2 hB4 hB10 hB13 hB196 G0 H_4 r0 r1 (-32600) bo pc pa n_pa ou LC LS) (cwV 2 hts (jgV (jWr_26 _ (List.mem_of_getElem? (i := 3) rfl)) (jWr_26 _ (List.mem_of_getElem? (i := 4) rfl)) (jWr_26 _ (List.mem_of_getElem? (i := 5) rfl)) (jWr_1 _ (List.mem_of_getElem? (i := 2) rfl)) (jWr_26 _ (List.mem_of_getElem? (i := 6) rfl))) rfl rfl rfl (by decide +kernel) ⟨by rw [← hR]; exact Nat.le_of_ble_eq_true rfl, by rw [← hR]; exact Nat.le_of_ble_eq_true rfl⟩) ⟨fun a U g mk q => by obtain ⟨q0, q1, q2, qK, q10, q11, q12, q13, q14, q15, q16, q17⟩ := q; exact ⟨q0, q1, q2, jG.calling g mk a qK, q10, q11, q12, q13, q14, q15, q16, q17⟩, hh_7.recv (C := RX11) (T := TX11) (N := 19) hB13 rfl (by decide) hg_r0 hK, fun U hU hW => ⟨rfl, hU, hh_7.2.1, hG.step hW hU hh_7.1, hg_r1, hg_r0, hg_bo, hg_pa, hg_ou, (hh_7.2.2.1.sub (L1 := [(r0, 13, 4, .ref bo), (bo, 2, 1, .int pc), (bo, 2, 0, .ref pa), (r0, 13, 3, .ref ou)]) [1, 2, 3, 4] rfl), (hh_7.2.2.2.2.2.2.2.2.sub (L1 := [(jFy, jYb dC dI G0)]) [1] rfl), (by omega), (by omega), ⟨(by first | omega | rfl | assumption | fail), (by first | omega | rfl | assumption | fail), (by first | omega | rfl | assumption | fail), (by first | omega | rfl | assumption | fail), (by first | assumption | fail | omega)⟩⟩⟩ rfl rfl hl.1 rfl (lv_room (Nat.le_of_ble_eq_true rfl)) dX11_request_100 ⟨by rw [hRc]; omega, by rw [hRs]; omega⟩) hh_7.1 (fun q _ h => h) (fun q h => h) (fun u_176 t_176 H_176 locs_176 ht_176 hvm_176 hr_177 hb_176 hz_176 hk_176 hS_176 => ?_)
          obtain ⟨qc_176, qa_176, m_qa_176, G_176⟩ := u_176
          rw [ht_176] at hb_176
          simp only at hb_176
          obtain ⟨⟨hb_1761, hb_1762, hb_1763, hb_1764, hb_1765, hb_1766⟩, hgq_176_0, hN_176, hbO_176, hbE_176⟩ := hb_176
          have hh_176 : jSt (dC, dI) B base G0 G_176 EX11_request s.heap (0 + ((m_qa_176 - n_pa) / 16)) (0 + (2 * (m_qa_176 - n_pa))) [(bo, 2, 1, .int qc_176), (bo, 2, 0, .ref qa_176), (r0, 13, 11, .int phase_8), (r0, 13, 4, .ref bo), (r0, 13, 3, .ref ou), (r0, 13, 2, .ref js), (js, 6, 7, .int pv), (js, 6, 8, .int pu), (js, 6, 0, .ref wk), (js, 6, 1, .ref wi), (js, 6, 2, .ref wz), (js, 6, 5, .ref jks)] [(wk, 140, 1502, ca 1, fk), (wi, 141, 1502, ca 1, fi), (wz, 142, 1502, ca 1, fz), (jks, 145, 1502, ca 1, fs)] [(jFs11, jSef dC dI G0), (jFl, jLs dC dI ca G0 3 none)] H_176 locs_176 := (hh_7.callG hb_1761 hb_1762 hb_1763 hb_1764 hb_1765 hS_176 rfl (L1 := [(r0, 13, 11, .int phase_8), (r0, 13, 4, .ref bo), (r0, 13, 3, .ref ou), (r0, 13, 2, .ref js), (js, 6, 7, .int pv), (js, 6, 8, .int pu), (js, 6, 0, .ref wk), (js, 6, 1, .ref wi), (js, 6, 2, .ref wz), (js, 6, 5, .ref jks)]) [0, 1, 4, 5, 6, 7, 8, 9, 10, 11] rfl rfl (M1 := [(wk, 140, 1502, ca 1, fk), (wi, 141, 1502, ca 1, fi), (wz, 142, 1502, ca 1, fz), (jks, 145, 1502, ca 1, fs)]) [0, 1, 2, 3] rfl rfl (I1 := [(jFs11, jSef dC dI G0), (jFl, jLs dC dI ca G0 3 none)]) [2, 3] rfl rfl).more hb_1766
          have hNn_176 : (jNk [0, 1, 2, 3, 4, 5, 6, 7, 8, 9, 10, 11, 12, 13, 14, 15, 16]) G0 G_176 := (jNk.rf).tr hN_176
          have hg_178 := hb_1762 _ _ hg_r0
          have hg_179 := hb_1762 _ _ hg_r1
          have hg_180 := hb_1762 _ _ hg_bo
          have hg_181 := hb_1762 _ _ hg_ou
          have hg_182 := hb_1762 _ _ hg_js
          have hg_183 := hb_1762 _ _ hg_wk
          have hg_184 := hb_1762 _ _ hg_wi
          have hg_185 := hb_1762 _ _ hg_wz
          have hg_186 := hb_1762 _ _ hg_jks
          have hd_187 := jSef.grow (hh_176.iv 0 rfl) hb_1762 hN_176 (by decide)
          have hh_188 := hh_176.sub (L1 := [(bo, 2, 1, .int qc_176), (bo, 2, 0, .ref qa_176), (r0, 13, 11, .int phase_8), (r0, 13, 4, .ref bo), (r0, 13, 3, .ref ou), (r0, 13, 2, .ref js), (js, 6, 7, .int pv), (js, 6, 8, .int pu), (js, 6, 0, .ref wk), (js, 6, 1, .ref wi), (js, 6, 2, .ref wz), (js, 6, 5, .ref jks)]) [0, 1, 2, 3, 4, 5, 6, 7, 8, 9, 10, 11] rfl (M1 := [(wk, 140, 1502, ca 1, fk), (wi, 141, 1502, ca 1, fi), (wz, 142, 1502, ca 1, fz), (jks, 145, 1502, ca 1, fs)]) [0, 1, 2, 3] rfl (I1 := [(jFl, jLs dC dI ca G0 3 none)]) [1] rfl
          clear hh_176
          have hh_189 := hh_188.addI (jSef.ie hd_187)
          clear hh_188
          have hd_190 := jLs.grow (hh_189.iv 1 rfl) hb_1762 hN_176 (by decide)
          have hh_191 := hh_189.sub (L1 := [(bo, 2, 1, .int qc_176), (bo, 2, 0, .ref qa_176), (r0, 13, 11, .int phase_8), (r0, 13, 4, .ref bo), (r0, 13, 3, .ref ou), (r0, 13, 2, .ref js), (js, 6, 7, .int pv), (js, 6, 8, .int pu), (js, 6, 0, .ref wk), (js, 6, 1, .ref wi), (js, 6, 2, .ref wz), (js, 6, 5, .ref jks)]) [0, 1, 2, 3, 4, 5, 6, 7, 8, 9, 10, 11] rfl (M1 := [(wk, 140, 1502, ca 1, fk), (wi, 141, 1502, ca 1, fi), (wz, 142, 1502, ca 1, fz), (jks, 145, 1502, ca 1, fs)]) [0, 1, 2, 3] rfl (I1 := [(jFs11, jSef dC dI G_176)]) [0] rfl
          clear hh_189
          have hh_192 := hh_191.addI (jLs.ie hd_190)
          clear hh_191
          have hh_193 := hh_192.addIs hbE_176
          have hd_194 := jOl.trL (hh_7.iv 0 rfl) hh_7.2.2.2.2.1 hbO_176 (by simp)
          have hh_195 := hh_193.addI (jOl.ie (dC := dC) (dI := dI) (G0 := G0) (k := 2) (rs := [bo, ou]) (H0 := s.heap) (F := [(2, 0), (2, 1)]) (C := RX0) (T := TX0) (N := 2) rfl (by decide) hh_193.2.2.2.2.1 (hd_194))
          clear hh_193
          try simp only at hr_177
          obtain ⟨hr_177_0, hr_177_1, hr_177_2, hr_177_3, hr_177_4⟩ := hr_177
          have hh_196 := hh_195.wk (zc1 := (m_qa_176 - n_pa) / 16 + 2) (zs1 := 2 * (m_qa_176 - n_pa) + 40 + pu.toInt.toNat) (by omega) (by omega)
          clear hh_195
          try clear hsz_176 htt_176 hrc_176 hrs_176
          try clear hb_1764 hb_1765
          refine lv_goto (tgt := 212) hx hb dX11_request_103 (by decide) ?_
          have hsz_197 := hh_196.2.2.2.2.2.1
          have htt_197 := hh_196.2.2.2.2.2.2.1
          refine W.room (fun hrc_197 hrs_197 => ?_)
          refine W.widen (k := LC - s.heap.size) (n := LS - jTot s.heap) (by omega) (by omega) ?_
          rw [hQ]
          exact W.vret hx hb hr (fun t ht hW => ⟨⟨(qc_176, qa_176, m_qa_176, G_176), rfl, by (try dsimp only); exact ⟨(by first | omega | rfl | assumption | fail), (by first | omega | rfl | assumption | fail), (by first | omega | rfl | assumption | fail), (by first | omega | rfl | assumption | fail), (by first | assumption | fail | omega)⟩, ⟨hh_196.ra (by first | omega | (simp only; omega)) (by first | omega | (simp only; omega)) (M1 := [(bo, 2, 1, .int qc_176), (bo, 2, 0, .ref qa_176)]) [0, 1] rfl ht, hgq_176_0, hNn_176, by rw [ht]; exact hh_196.iv 0 rfl, by rw [ht]; exact hh_196.2.2.2.2.2.2.2.2.sub (L1 := [(jFy, jYb dC dI G_176), (jFs11, jSef dC dI G_176), (jFl, jLs dC dI ca G_176 3 none)]) [1, 3, 2] rfl⟩⟩, by rw [ht]; try exact hh_196.1.1, fun q h9 hq => by rw [ht]; try exact hh_196.1.2.1 q h9 hq⟩) hh_196.1.2.2 dX11_request_212
    · skip
      have c_10' : phase_8.toInt = 0 := jb_ne_n (rfl) ((by decide)) c_10
      exact (by omega : False).elim
  · skip
    have c_9' : phase_8.toInt = 0 := jb_ne_n (rfl) ((by decide)) c_9
    first | (have hr_3_2q := hr_3_2.resolve_left (by omega); clear hr_3_2) | (have hr_3_2q := hr_3_2.resolve_right (by omega); clear hr_3_2) | skip
    refine lv_iload_n hx hb dX11_request_31 rfl (lv_at hl 0 rfl) ?_
    refine lv_if_eq (tgt := 65) hx hb dX11_request_32 (by decide) (fun c_198 => ?_) (fun c_198 => ?_)
    · skip
      have c_198' : r_5.toInt = 0 := jb_eq (rfl) ((by decide)) c_198
      first | (have hr_3_2q := hr_3_2.resolve_left (by omega); clear hr_3_2) | (have hr_3_2q := hr_3_2.resolve_right (by omega); clear hr_3_2) | skip
      first | (have hr_5pq := hr_5p.resolve_left (by omega); clear hr_5p) | (have hr_5pq := hr_5p.resolve_right (by omega); clear hr_5p) | skip
      refine lv_aload_n hx hb dX11_request_65 rfl (lv_at hl 2 rfl) ?_
      refine j7_read hx hb hown hK (C := RX11) (T := TX11) (N := 19) rfl hly_13_11 hlk_77 (hh_7.at 0 rfl) dX11_request_66 ?_
      refine lv_if_ne (tgt := 83) hx hb dX11_request_69 (by decide) (fun c_199 => ?_) (fun c_199 => ?_)
      · skip
        have c_199' : phase_8.toInt ≠ 0 := jb_ne (rfl) ((by decide)) c_199
        exact (by omega : False).elim
      · skip
        have c_199' : phase_8.toInt = 0 := jb_ne_n (rfl) ((by decide)) c_199
        first | (have hr_3_2q := hr_3_2.resolve_left (by omega); clear hr_3_2) | (have hr_3_2q := hr_3_2.resolve_right (by omega); clear hr_3_2) | skip
        refine lv_aload_n hx hb dX11_request_72 rfl (lv_at hl 2 rfl) ?_
        refine lv_aload_n hx hb dX11_request_73 rfl (lv_at hl 3 rfl) ?_
        refine lv_sipush (v := (-32002)) hx hb dX11_request_74 (by decide) ?_
        have hsz_200 := hh_7.2.2.2.2.2.1
        have htt_200 := hh_7.2.2.2.2.2.2.1
        refine W.room (fun hrc_200 hrs_200 => ?_)
        refine va_callv (A0 := jA base) (H0 := s.heap) (va_runV (As := [.ref r1, .int (-32002)]) (rest := []) ⟨hx, hb, hml, hown, hts⟩ (uX11_refuse l dC dI ca base B hB hAp hB2 hB4 hB10 hB13 hB196 G0 H_4 r0 r1 (-32002) bo pc pa n_pa ou LC LS) (cwV 2 hts (jgV (jWr_26 _ (List.mem_of_getElem? (i := 3) rfl)) (jWr_26 _ (List.mem_of_getElem? (i := 4) rfl)) (jWr_26 _ (List.mem_of_getElem? (i := 5) rfl)) (jWr_1 _ (List.mem_of_getElem? (i := 2) rfl)) (jWr_26 _ (List.mem_of_getElem? (i := 6) rfl))) rfl rfl rfl (by decide +kernel) ⟨by rw [← hR]; exact Nat.le_of_ble_eq_true rfl, by rw [← hR]; exact Nat.le_of_ble_eq_true rfl⟩) ⟨fun a U g mk q => by obtain ⟨q0, q1, q2, qK, q10, q11, q12, q13, q14, q15, q16, q17⟩ := q; exact ⟨q0, q1, q2, jG.calling g mk a qK, q10, q11, q12, q13, q14, q15, q16, q17⟩, hh_7.recv (C := RX11) (T := TX11) (N := 19) hB13 rfl (by decide) hg_r0 hK, fun U hU hW => ⟨rfl, hU, hh_7.2.1, hG.step hW hU hh_7.1, hg_r1, hg_r0, hg_bo, hg_pa, hg_ou, (hh_7.2.2.1.sub (L1 := [(r0, 13, 4, .ref bo), (bo, 2, 1, .int pc), (bo, 2, 0, .ref pa), (r0, 13, 3, .ref ou)]) [1, 2, 3, 4] rfl), (hh_7.2.2.2.2.2.2.2.2.sub (L1 := [(jFy, jYb dC dI G0)]) [1] rfl), (by omega), (by omega), ⟨(by first | omega | rfl | assumption | fail), (by first | omega | rfl | assumption | fail), (by first | omega | rfl | assumption | fail), (by first | omega | rfl | assumption | fail), (by first | assumption | fail | omega)⟩⟩⟩ rfl rfl hl.1 rfl (lv_room (Nat.le_of_ble_eq_true rfl)) dX11_request_77 ⟨by rw [hRc]; omega, by rw [hRs]; omega⟩) hh_7.1 (fun q _ h => h) (fun q h => h) (fun u_200 t_200 H_200 locs_200 ht_200 hvm_200 hr_201 hb_200 hz_200 hk_200 hS_200 => ?_)
        obtain ⟨qc_200, qa_200, m_qa_200, G_200⟩ := u_200
        rw [ht_200] at hb_200
        simp only at hb_200
        obtain ⟨⟨hb_2001, hb_2002, hb_2003, hb_2004, hb_2005, hb_2006⟩, hgq_200_0, hN_200, hbO_200, hbE_200⟩ := hb_200
        have hh_200 : jSt (dC, dI) B base G0 G_200 EX11_request s.heap (0 + ((m_qa_200 - n_pa) / 16)) (0 + (2 * (m_qa_200 - n_pa))) [(bo, 2, 1, .int qc_200), (bo, 2, 0, .ref qa_200), (r0, 13, 11, .int phase_8), (r0, 13, 4, .ref bo), (r0, 13, 3, .ref ou), (r0, 13, 2, .ref js), (js, 6, 7, .int pv), (js, 6, 8, .int pu), (js, 6, 0, .ref wk), (js, 6, 1, .ref wi), (js, 6, 2, .ref wz), (js, 6, 5, .ref jks)] [(wk, 140, 1502, ca 1, fk), (wi, 141, 1502, ca 1, fi), (wz, 142, 1502, ca 1, fz), (jks, 145, 1502, ca 1, fs)] [(jFs11, jSef dC dI G0), (jFl, jLs dC dI ca G0 3 none)] H_200 locs_200 := (hh_7.callG hb_2001 hb_2002 hb_2003 hb_2004 hb_2005 hS_200 rfl (L1 := [(r0, 13, 11, .int phase_8), (r0, 13, 4, .ref bo), (r0, 13, 3, .ref ou), (r0, 13, 2, .ref js), (js, 6, 7, .int pv), (js, 6, 8, .int pu), (js, 6, 0, .ref wk), (js, 6, 1, .ref wi), (js, 6, 2, .ref wz), (js, 6, 5, .ref jks)]) [0, 1, 4, 5, 6, 7, 8, 9, 10, 11] rfl rfl (M1 := [(wk, 140, 1502, ca 1, fk), (wi, 141, 1502, ca 1, fi), (wz, 142, 1502, ca 1, fz), (jks, 145, 1502, ca 1, fs)]) [0, 1, 2, 3] rfl rfl (I1 := [(jFs11, jSef dC dI G0), (jFl, jLs dC dI ca G0 3 none)]) [2, 3] rfl rfl).more hb_2006
        have hNn_200 : (jNk [0, 1, 2, 3, 4, 5, 6, 7, 8, 9, 10, 11, 12, 13, 14, 15, 16]) G0 G_200 := (jNk.rf).tr hN_200
        have hg_202 := hb_2002 _ _ hg_r0
        have hg_203 := hb_2002 _ _ hg_r1
        have hg_204 := hb_2002 _ _ hg_bo
        have hg_205 := hb_2002 _ _ hg_ou
        have hg_206 := hb_2002 _ _ hg_js
        have hg_207 := hb_2002 _ _ hg_wk
        have hg_208 := hb_2002 _ _ hg_wi
        have hg_209 := hb_2002 _ _ hg_wz
        have hg_210 := hb_2002 _ _ hg_jks
        have hd_211 := jSef.grow (hh_200.iv 0 rfl) hb_2002 hN_200 (by decide)
        have hh_212 := hh_200.sub (L1 := [(bo, 2, 1, .int qc_200), (bo, 2, 0, .ref qa_200), (r0, 13, 11, .int phase_8), (r0, 13, 4, .ref bo), (r0, 13, 3, .ref ou), (r0, 13, 2, .ref js), (js, 6, 7, .int pv), (js, 6, 8, .int pu), (js, 6, 0, .ref wk), (js, 6, 1, .ref wi), (js, 6, 2, .ref wz), (js, 6, 5, .ref jks)]) [0, 1, 2, 3, 4, 5, 6, 7, 8, 9, 10, 11] rfl (M1 := [(wk, 140, 1502, ca 1, fk), (wi, 141, 1502, ca 1, fi), (wz, 142, 1502, ca 1, fz), (jks, 145, 1502, ca 1, fs)]) [0, 1, 2, 3] rfl (I1 := [(jFl, jLs dC dI ca G0 3 none)]) [1] rfl
        clear hh_200
        have hh_213 := hh_212.addI (jSef.ie hd_211)
        clear hh_212
        have hd_214 := jLs.grow (hh_213.iv 1 rfl) hb_2002 hN_200 (by decide)
        have hh_215 := hh_213.sub (L1 := [(bo, 2, 1, .int qc_200), (bo, 2, 0, .ref qa_200), (r0, 13, 11, .int phase_8), (r0, 13, 4, .ref bo), (r0, 13, 3, .ref ou), (r0, 13, 2, .ref js), (js, 6, 7, .int pv), (js, 6, 8, .int pu), (js, 6, 0, .ref wk), (js, 6, 1, .ref wi), (js, 6, 2, .ref wz), (js, 6, 5, .ref jks)]) [0, 1, 2, 3, 4, 5, 6, 7, 8, 9, 10, 11] rfl (M1 := [(wk, 140, 1502, ca 1, fk), (wi, 141, 1502, ca 1, fi), (wz, 142, 1502, ca 1, fz), (jks, 145, 1502, ca 1, fs)]) [0, 1, 2, 3] rfl (I1 := [(jFs11, jSef dC dI G_200)]) [0] rfl
        clear hh_213
        have hh_216 := hh_215.addI (jLs.ie hd_214)
        clear hh_215
        have hh_217 := hh_216.addIs hbE_200
        have hd_218 := jOl.trL (hh_7.iv 0 rfl) hh_7.2.2.2.2.1 hbO_200 (by simp)
        have hh_219 := hh_217.addI (jOl.ie (dC := dC) (dI := dI) (G0 := G0) (k := 2) (rs := [bo, ou]) (H0 := s.heap) (F := [(2, 0), (2, 1)]) (C := RX0) (T := TX0) (N := 2) rfl (by decide) hh_217.2.2.2.2.1 (hd_218))
        clear hh_217
        try simp only at hr_201
        obtain ⟨hr_201_0, hr_201_1, hr_201_2, hr_201_3, hr_201_4⟩ := hr_201
        have hh_220 := hh_219.wk (zc1 := (m_qa_200 - n_pa) / 16 + 2) (zs1 := 2 * (m_qa_200 - n_pa) + 40 + pu.toInt.toNat) (by omega) (by omega)
        clear hh_219
        try clear hsz_200 htt_200 hrc_200 hrs_200
        try clear hb_2004 hb_2005
        refine lv_goto (tgt := 212) hx hb dX11_request_80 (by decide) ?_
        have hsz_221 := hh_220.2.2.2.2.2.1
        have htt_221 := hh_220.2.2.2.2.2.2.1
        refine W.room (fun hrc_221 hrs_221 => ?_)
        refine W.widen (k := LC - s.heap.size) (n := LS - jTot s.heap) (by omega) (by omega) ?_
        rw [hQ]
        exact W.vret hx hb hr (fun t ht hW => ⟨⟨(qc_200, qa_200, m_qa_200, G_200), rfl, by (try dsimp only); exact ⟨(by first | omega | rfl | assumption | fail), (by first | omega | rfl | assumption | fail), (by first | omega | rfl | assumption | fail), (by first | omega | rfl | assumption | fail), (by first | assumption | fail | omega)⟩, ⟨hh_220.ra (by first | omega | (simp only; omega)) (by first | omega | (simp only; omega)) (M1 := [(bo, 2, 1, .int qc_200), (bo, 2, 0, .ref qa_200)]) [0, 1] rfl ht, hgq_200_0, hNn_200, by rw [ht]; exact hh_220.iv 0 rfl, by rw [ht]; exact hh_220.2.2.2.2.2.2.2.2.sub (L1 := [(jFy, jYb dC dI G_200), (jFs11, jSef dC dI G_200), (jFl, jLs dC dI ca G_200 3 none)]) [1, 3, 2] rfl⟩⟩, by rw [ht]; try exact hh_220.1.1, fun q h9 hq => by rw [ht]; try exact hh_220.1.2.1 q h9 hq⟩) hh_220.1.2.2 dX11_request_212
    · skip
      have c_198' : r_5.toInt ≠ 0 := jb_eq_n (rfl) ((by decide)) c_198
      first | (have hr_3_2q := hr_3_2.resolve_left (by omega); clear hr_3_2) | (have hr_3_2q := hr_3_2.resolve_right (by omega); clear hr_3_2) | skip
      first | (have hr_5pq := hr_5p.resolve_left (by omega); clear hr_5p) | (have hr_5pq := hr_5p.resolve_right (by omega); clear hr_5p) | skip
      refine lv_aload_n hx hb dX11_request_35 rfl (lv_at hl 2 rfl) ?_
      refine lv_iconst (v := 1) hx hb dX11_request_36 (by decide) ?_
      refine j7_put hx hb hown hK hh_7 hB hAp hB13 (C := RX11) (T := TX11) (N := 19) rfl (by decide) hg_r0 (i := 11) (by decide) hly_13_11 rfl hlk_77 rfl (ty := .int) (v := .int 1) (by decide +kernel) rfl rfl (⟨_, rfl, by omega, by omega⟩) rfl (L1 := [(r0, 13, 4, .ref bo), (bo, 2, 1, .int pc), (bo, 2, 0, .ref pa), (r0, 13, 3, .ref ou), (r0, 13, 2, .ref js), (js, 6, 7, .int pv), (js, 6, 8, .int pu), (js, 6, 0, .ref wk), (js, 6, 1, .ref wi), (js, 6, 2, .ref wz), (js, 6, 5, .ref jks)]) [1, 2, 3, 4, 5, 6, 7, 8, 9, 10, 11] rfl rfl rfl dX11_request_37 (fun H_222 locs_222 hh_222 => ?_)
      clear hh_7
      refine lv_aload_n hx hb dX11_request_40 rfl (lv_at hl 2 rfl) ?_
      refine lv_aload_n hx hb dX11_request_41 rfl (lv_at hl 3 rfl) ?_
      refine j_ldcSw hx hb hown rstr289 dX11_request_42 ?_
      have hsz_223 := hh_222.2.2.2.2.2.1
      have htt_223 := hh_222.2.2.2.2.2.2.1
      refine W.room (fun hrc_223 hrs_223 => ?_)
      refine va_callv (A0 := jA base) (H0 := s.heap) (va_runV (As := [.ref r1, .ref str289]) (rest := []) ⟨hx, hb, hml, hown, hts⟩ (uX11_beginAnswer l dC dI ca base B hB hAp hB2 hB10 hB13 hB196 G0 H_222 r0 r1 str289 10 bo pc pa n_pa LC LS) (cwV 2 hts (jgV (jWr_26 _ (List.mem_of_getElem? (i := 7) rfl)) (jWr_26 _ (List.mem_of_getElem? (i := 8) rfl)) (jWr_26 _ (List.mem_of_getElem? (i := 9) rfl)) (jWr_1 _ (List.mem_of_getElem? (i := 2) rfl)) (jWr_26 _ (List.mem_of_getElem? (i := 10) rfl))) rfl rfl rfl (by decide +kernel) ⟨by rw [← hR]; exact Nat.le_of_ble_eq_true rfl, by rw [← hR]; exact Nat.le_of_ble_eq_true rfl⟩) ⟨fun a U g mk q => by obtain ⟨q0, q1, q2, qK, q10, q11, q12, q13, q14, q15, q16, q17⟩ := q; exact ⟨q0, q1, q2, jG.calling g mk a qK, (q10.moved (Vm.Alike.refl U.vm)), q11, q12, q13, q14, q15, q16, q17⟩, hh_222.recv (C := RX11) (T := TX11) (N := 19) hB13 rfl (by decide) hg_r0 hK, fun U hU hW => ⟨rfl, hU, hh_222.2.1, hG.step hW hU hh_222.1, (hstr289.moved hW.alike).kept hh_222.1.2.1, hg_r1, hg_r0, hg_bo, hg_pa, (hh_222.2.2.1.sub (L1 := [(r0, 13, 4, .ref bo), (bo, 2, 1, .int pc), (bo, 2, 0, .ref pa)]) [1, 2, 3] rfl), (hh_222.2.2.2.2.2.2.2.2.sub (L1 := [(jFy, jYb dC dI G0)]) [1] rfl), (by omega), (by omega), ⟨(by first | omega | rfl | assumption | fail), (by first | omega | rfl | assumption | fail), (by first | omega | rfl | assumption | fail), (by first | omega | rfl | assumption | fail), (by first | assumption | fail | omega), (by first | omega | rfl | assumption | fail)⟩⟩⟩ rfl rfl hl.1 rfl (lv_room (Nat.le_of_ble_eq_true rfl)) dX11_request_45 ⟨by rw [hRc]; omega, by rw [hRs]; omega⟩) hh_222.1 (fun q _ h => h) (fun q h => h) (fun u_223 t_223 H_223 locs_223 ht_223 hvm_223 hr_224 hb_223 hz_223 hk_223 hS_223 => ?_)
      obtain ⟨qc_223, qa_223, m_qa_223, G_223⟩ := u_223
      rw [ht_223] at hb_223
      simp only at hb_223
      obtain ⟨⟨hb_2231, hb_2232, hb_2233, hb_2234, hb_2235, hb_2236⟩, hgq_223_0, hN_223, hbO_223, hbE_223⟩ := hb_223
      have hh_223 : jSt (dC, dI) B base G0 G_223 EX11_request s.heap (0 + ((m_qa_223 - n_pa) / 16)) (0 + (2 * (m_qa_223 - n_pa))) [(bo, 2, 1, .int qc_223), (bo, 2, 0, .ref qa_223), (r0, 13, 11, .int 1), (r0, 13, 4, .ref bo), (r0, 13, 3, .ref ou), (r0, 13, 2, .ref js), (js, 6, 7, .int pv), (js, 6, 8, .int pu), (js, 6, 0, .ref wk), (js, 6, 1, .ref wi), (js, 6, 2, .ref wz), (js, 6, 5, .ref jks)] [(wk, 140, 1502, ca 1, fk), (wi, 141, 1502, ca 1, fi), (wz, 142, 1502, ca 1, fz), (jks, 145, 1502, ca 1, fs)] [(jFs11, jSef dC dI G0), (jFl, jLs dC dI ca G0 3 none)] H_223 locs_223 := (hh_222.callG hb_2231 hb_2232 hb_2233 hb_2234 hb_2235 hS_223 rfl (L1 := [(r0, 13, 11, .int 1), (r0, 13, 4, .ref bo), (r0, 13, 3, .ref ou), (r0, 13, 2, .ref js), (js, 6, 7, .int pv), (js, 6, 8, .int pu), (js, 6, 0, .ref wk), (js, 6, 1, .ref wi), (js, 6, 2, .ref wz), (js, 6, 5, .ref jks)]) [0, 1, 4, 5, 6, 7, 8, 9, 10, 11] rfl rfl (M1 := [(wk, 140, 1502, ca 1, fk), (wi, 141, 1502, ca 1, fi), (wz, 142, 1502, ca 1, fz), (jks, 145, 1502, ca 1, fs)]) [0, 1, 2, 3] rfl rfl (I1 := [(jFs11, jSef dC dI G0), (jFl, jLs dC dI ca G0 3 none)]) [2, 3] rfl rfl).more hb_2236
      have hNn_223 : (jNk [0, 1, 2, 3, 4, 5, 6, 7, 8, 9, 10, 11, 12, 13, 14, 15, 16]) G0 G_223 := (jNk.rf).tr hN_223
      have hg_225 := hb_2232 _ _ hg_r0
      have hg_226 := hb_2232 _ _ hg_r1
      have hg_227 := hb_2232 _ _ hg_bo
      have hg_228 := hb_2232 _ _ hg_ou
      have hg_229 := hb_2232 _ _ hg_js
      have hg_230 := hb_2232 _ _ hg_wk
      have hg_231 := hb_2232 _ _ hg_wi
      have hg_232 := hb_2232 _ _ hg_wz
      have hg_233 := hb_2232 _ _ hg_jks
      have hd_234 := jSef.grow (hh_223.iv 0 rfl) hb_2232 hN_223 (by decide)
      have hh_235 := hh_223.sub (L1 := [(bo, 2, 1, .int qc_223), (bo, 2, 0, .ref qa_223), (r0, 13, 11, .int 1), (r0, 13, 4, .ref bo), (r0, 13, 3, .ref ou), (r0, 13, 2, .ref js), (js, 6, 7, .int pv), (js, 6, 8, .int pu), (js, 6, 0, .ref wk), (js, 6, 1, .ref wi), (js, 6, 2, .ref wz), (js, 6, 5, .ref jks)]) [0, 1, 2, 3, 4, 5, 6, 7, 8, 9, 10, 11] rfl (M1 := [(wk, 140, 1502, ca 1, fk), (wi, 141, 1502, ca 1, fi), (wz, 142, 1502, ca 1, fz), (jks, 145, 1502, ca 1, fs)]) [0, 1, 2, 3] rfl (I1 := [(jFl, jLs dC dI ca G0 3 none)]) [1] rfl
      clear hh_223
      have hh_236 := hh_235.addI (jSef.ie hd_234)
      clear hh_235
      have hd_237 := jLs.grow (hh_236.iv 1 rfl) hb_2232 hN_223 (by decide)
      have hh_238 := hh_236.sub (L1 := [(bo, 2, 1, .int qc_223), (bo, 2, 0, .ref qa_223), (r0, 13, 11, .int 1), (r0, 13, 4, .ref bo), (r0, 13, 3, .ref ou), (r0, 13, 2, .ref js), (js, 6, 7, .int pv), (js, 6, 8, .int pu), (js, 6, 0, .ref wk), (js, 6, 1, .ref wi), (js, 6, 2, .ref wz), (js, 6, 5, .ref jks)]) [0, 1, 2, 3, 4, 5, 6, 7, 8, 9, 10, 11] rfl (M1 := [(wk, 140, 1502, ca 1, fk), (wi, 141, 1502, ca 1, fi), (wz, 142, 1502, ca 1, fz), (jks, 145, 1502, ca 1, fs)]) [0, 1, 2, 3] rfl (I1 := [(jFs11, jSef dC dI G_223)]) [0] rfl
      clear hh_236
      have hh_239 := hh_238.addI (jLs.ie hd_237)
      clear hh_238
      have hh_240 := hh_239.addIs hbE_223
      have hd_241 := jOl.trL (hh_222.iv 0 rfl) hh_222.2.2.2.2.1 hbO_223 (by simp)
      have hh_242 := hh_240.addI (jOl.ie (dC := dC) (dI := dI) (G0 := G0) (k := 2) (rs := [bo, ou]) (H0 := s.heap) (F := [(2, 0), (2, 1)]) (C := RX0) (T := TX0) (N := 2) rfl (by decide) hh_240.2.2.2.2.1 (hd_241))
      clear hh_240
      try simp only at hr_224
      obtain ⟨hr_224_0, hr_224_1, hr_224_2, hr_224_3, hr_224_4⟩ := hr_224
      have hh_243 := hh_242.wk (zc1 := (m_qa_223 - n_pa) / 16 + 2) (zs1 := 2 * (m_qa_223 - n_pa) + 40 + pu.toInt.toNat) (by omega) (by omega)
      clear hh_242
      try clear hsz_223 htt_223 hrc_223 hrs_223
      try clear hb_2234 hb_2235
      refine lv_aload_n hx hb dX11_request_48 rfl (lv_at hl 2 rfl) ?_
      refine j7_read hx hb hown hK (C := RX11) (T := TX11) (N := 19) rfl hly_13_4 hlk_35 (hh_243.at 3 rfl) dX11_request_49 ?_
      refine j_ldcSw hx hb hown rstr295 dX11_request_52 ?_
      have hsz_244 := hh_243.2.2.2.2.2.1
      have htt_244 := hh_243.2.2.2.2.2.2.1
      refine W.room (fun hrc_244 hrs_244 => ?_)
      refine va_callv (A0 := jA base) (H0 := s.heap) (va_runV (As := [.ref str295]) (rest := []) ⟨hx, hb, hml, hown, hts⟩ (uX0_text l dC dI ca base B hB hAp hB2 hB196 G_223 H_223 bo str295 40 qc_223 qa_223 m_qa_223 LC LS) (cwV 1 hts (jgV (jWr_26 _ (List.mem_of_getElem? (i := 11) rfl)) (jWr_25 _ (List.mem_of_getElem? (i := 22) rfl)) (jWr_25 _ (List.mem_of_getElem? (i := 23) rfl)) (jWr_1 _ (List.mem_of_getElem? (i := 14) rfl)) (jWr_26 _ (List.mem_of_getElem? (i := 0) rfl))) rfl rfl rfl (by decide +kernel) ⟨by rw [← hR]; exact Nat.le_of_ble_eq_true rfl, by rw [← hR]; exact Nat.le_of_ble_eq_true rfl⟩) ⟨fun a U g mk q => by obtain ⟨q0, q1, q2, qK, q10, q11, q12, q13, q14⟩ := q; exact ⟨q0, q1, q2, jG.calling g mk a qK, (q10.moved (Vm.Alike.refl U.vm)), q11, q12, q13, q14⟩, hh_243.recv (C := RX0) (T := TX0) (N := 2) hB2 rfl (by decide) hg_227 hK, fun U hU hW => ⟨rfl, hU, hh_243.2.1, hG.step hW hU hh_243.1, (hstr295.moved hW.alike).kept hh_243.1.2.1, hg_227, hgq_223_0, (hh_243.2.2.1.sub (L1 := [(bo, 2, 1, .int qc_223), (bo, 2, 0, .ref qa_223)]) [0, 1] rfl), (by omega), (by omega), ⟨(by first | omega | rfl | assumption | fail), (by first | omega | rfl | assumption | fail), (by first | omega | rfl | assumption | fail), (by first | omega | rfl | assumption | fail), (by first | assumption | fail | omega), (by first | omega | rfl | assumption | fail)⟩⟩⟩ rfl rfl hl.1 rfl (lv_room (Nat.le_of_ble_eq_true rfl)) dX11_request_55 ⟨by rw [hRc]; omega, by rw [hRs]; omega⟩) hh_243.1 (fun q _ h => h) (fun q h => h) (fun u_244 t_244 H_244 locs_244 ht_244 hvm_244 hr_245 hb_244 hz_244 hk_244 hS_244 => ?_)
      obtain ⟨qc_244, qa_244, m_qa_244, G_244⟩ := u_244
      rw [ht_244] at hb_244
      simp only at hb_244
      obtain ⟨⟨hb_2441, hb_2442, hb_2443, hb_2444, hb_2445, hb_2446⟩, hgq_244_0, hN_244, hbO_244⟩ := hb_244
      have hy_246 := hh_243.iv 1 rfl
      have hh_244 : jSt (dC, dI) B base G0 G_244 EX11_request s.heap (((m_qa_223 - n_pa) / 16 + 2) + ((m_qa_244 - m_qa_223) / 16)) ((2 * (m_qa_223 - n_pa) + 40 + pu.toInt.toNat) + (2 * (m_qa_244 - m_qa_223))) [(bo, 2, 1, .int qc_244), (bo, 2, 0, .ref qa_244), (r0, 13, 11, .int 1), (r0, 13, 4, .ref bo), (r0, 13, 3, .ref ou), (r0, 13, 2, .ref js), (js, 6, 7, .int pv), (js, 6, 8, .int pu), (js, 6, 0, .ref wk), (js, 6, 1, .ref wi), (js, 6, 2, .ref wz), (js, 6, 5, .ref jks)] [(wk, 140, 1502, ca 1, fk), (wi, 141, 1502, ca 1, fi), (wz, 142, 1502, ca 1, fz), (jks, 145, 1502, ca 1, fs)] [(jFl, jLs dC dI ca G_223 3 none), (jFs11, jSef dC dI G_223)] H_244 locs_244 := (hh_243.callG hb_2441 hb_2442 hb_2443 hb_2444 hb_2445 hS_244 rfl (L1 := [(r0, 13, 11, .int 1), (r0, 13, 4, .ref bo), (r0, 13, 3, .ref ou), (r0, 13, 2, .ref js), (js, 6, 7, .int pv), (js, 6, 8, .int pu), (js, 6, 0, .ref wk), (js, 6, 1, .ref wi), (js, 6, 2, .ref wz), (js, 6, 5, .ref jks)]) [2, 3, 4, 5, 6, 7, 8, 9, 10, 11] rfl rfl (M1 := [(wk, 140, 1502, ca 1, fk), (wi, 141, 1502, ca 1, fi), (wz, 142, 1502, ca 1, fz), (jks, 145, 1502, ca 1, fs)]) [0, 1, 2, 3] rfl rfl (I1 := [(jFl, jLs dC dI ca G_223 3 none), (jFs11, jSef dC dI G_223)]) [2, 3] rfl rfl).more hb_2446
      have hNn_244 : (jNk [0, 1, 2, 3, 4, 5, 6, 7, 8, 9, 10, 11, 12, 13, 14, 15, 16]) G0 G_244 := (hNn_223).tr hN_244
      have hg_247 := hb_2442 _ _ hg_225
      have hg_248 := hb_2442 _ _ hg_226
      have hg_249 := hb_2442 _ _ hg_227
      have hg_250 := hb_2442 _ _ hg_228
      have hg_251 := hb_2442 _ _ hg_229
      have hg_252 := hb_2442 _ _ hg_230
      have hg_253 := hb_2442 _ _ hg_231
      have hg_254 := hb_2442 _ _ hg_232
      have hg_255 := hb_2442 _ _ hg_233
      have hd_256 := jLs.grow (hh_244.iv 0 rfl) hb_2442 hN_244 (by decide)
      have hh_257 := hh_244.sub (L1 := [(bo, 2, 1, .int qc_244), (bo, 2, 0, .ref qa_244), (r0, 13, 11, .int 1), (r0, 13, 4, .ref bo), (r0, 13, 3, .ref ou), (r0, 13, 2, .ref js), (js, 6, 7, .int pv), (js, 6, 8, .int pu), (js, 6, 0, .ref wk), (js, 6, 1, .ref wi), (js, 6, 2, .ref wz), (js, 6, 5, .ref jks)]) [0, 1, 2, 3, 4, 5, 6, 7, 8, 9, 10, 11] rfl (M1 := [(wk, 140, 1502, ca 1, fk), (wi, 141, 1502, ca 1, fi), (wz, 142, 1502, ca 1, fz), (jks, 145, 1502, ca 1, fs)]) [0, 1, 2, 3] rfl (I1 := [(jFs11, jSef dC dI G_223)]) [1] rfl
      clear hh_244
      have hh_258 := hh_257.addI (jLs.ie hd_256)
      clear hh_257
      have hd_259 := jSef.grow (hh_258.iv 1 rfl) hb_2442 hN_244 (by decide)
      have hh_260 := hh_258.sub (L1 := [(bo, 2, 1, .int qc_244), (bo, 2, 0, .ref qa_244), (r0, 13, 11, .int 1), (r0, 13, 4, .ref bo), (r0, 13, 3, .ref ou), (r0, 13, 2, .ref js), (js, 6, 7, .int pv), (js, 6, 8, .int pu), (js, 6, 0, .ref wk), (js, 6, 1, .ref wi), (js, 6, 2, .ref wz), (js, 6, 5, .ref jks)]) [0, 1, 2, 3, 4, 5, 6, 7, 8, 9, 10, 11] rfl (M1 := [(wk, 140, 1502, ca 1, fk), (wi, 141, 1502, ca 1, fi), (wz, 142, 1502, ca 1, fz), (jks, 145, 1502, ca 1, fs)]) [0, 1, 2, 3] rfl (I1 := [(jFl, jLs dC dI ca G_244 3 none)]) [0] rfl
      clear hh_258
      have hh_261 := hh_260.addI (jSef.ie hd_259)
      clear hh_260
      have hd_262 := jOl.trO (hh_243.iv 0 rfl) hh_243.2.2.2.2.1 hbO_244 (by simp)
      have hh_263 := hh_261.addI (jOl.ie (dC := dC) (dI := dI) (G0 := G0) (k := 2) (rs := [bo, ou]) (H0 := s.heap) (F := [(2, 0), (2, 1)]) (C := RX0) (T := TX0) (N := 2) rfl (by decide) hh_261.2.2.2.2.1 (hd_262))
      clear hh_261
      have hyp_244 : qc_244.toInt ≤ (m_qa_244 : Nat) ∧ m_qa_244 ≤ 1048576 := by (try simp only at hr_245); omega
      have hy_264 := jYb.own hy_246 hbO_244 hb_2442 hN_244 (by decide) (fun _ => ⟨_, _, _, hh_263.at 0 rfl, hh_263.at 1 rfl, hgq_244_0, hyp_244⟩)
      have hh_265 := hh_263.addI (jYb.ie hy_264)
      clear hh_263
      try simp only at hr_245
      obtain ⟨hr_245_0, hr_245_1, hr_245_2, hr_245_3, hr_245_4⟩ := hr_245
      have hh_266 := hh_265.wk (zc1 := (m_qa_244 - n_pa) / 16 + 2) (zs1 := 2 * (m_qa_244 - n_pa) + 40 + pu.toInt.toNat) (by omega) (by omega)
      clear hh_265
      try clear hsz_244 htt_244 hrc_244 hrs_244
      try clear hb_2444 hb_2445
      refine lv_aload_n hx hb dX11_request_58 rfl (lv_at hl 2 rfl) ?_
      obtain ⟨v_269, hv_269, hh_270⟩ := hh_266.pin (C := RX0) (T := TX0) (N := 2) hB2 rfl (by decide) hg_250 (i := 1) (by decide) rfl
      obtain ⟨count_271, rfl, hlocount_271, hhicount_271, hfxcount_271⟩ := hv_269
      obtain ⟨v_272, hv_272, hh_273⟩ := hh_270.pin (C := RX0) (T := TX0) (N := 2) hB2 rfl (by decide) hg_250 (i := 0) (by decide) rfl
      obtain ⟨row_274, nrow_274, rfl, hg_row_274, hlorow_274, hhirow_274, hpwrow_274, hfxrow_274⟩ := jBr.k6 (by decide) hv_272
      have hsz_267 := hh_273.2.2.2.2.2.1
      have htt_267 := hh_273.2.2.2.2.2.2.1
      refine W.room (fun hrc_267 hrs_267 => ?_)
      refine va_callv (A0 := jA base) (H0 := s.heap) (va_runV (As := []) (rest := []) ⟨hx, hb, hml, hown, hts⟩ (uX11_send l dC dI ca base B hB hAp hB2 hB4 hB13 hB196 G_244 H_244 r0 bo qc_244 qa_244 m_qa_244 ou count_271 row_274 nrow_274) (cwV 0 hts (jgV (jWr_26 _ (List.mem_of_getElem? (i := 20) rfl)) (jWr_26 _ (List.mem_of_getElem? (i := 21) rfl)) (jWr_26 _ (List.mem_of_getElem? (i := 22) rfl)) (jWr_1 _ (List.mem_of_getElem? (i := 2) rfl)) (jWr_26 _ (List.mem_of_getElem? (i := 23) rfl))) rfl rfl rfl (by decide +kernel) ⟨by rw [← hR]; exact Nat.le_of_ble_eq_true rfl, by rw [← hR]; exact Nat.le_of_ble_eq_true rfl⟩) ⟨fun a U g mk q => by obtain ⟨q0, q1, q2, qK, q10, q11, q12, q13, q14, q15, q16, q17⟩ := q; exact ⟨q0, q1, q2, jG.calling g mk a qK, q10, q11, q12, q13, q14, q15, q16, q17⟩, hh_273.recv (C := RX11) (T := TX11) (N := 19) hB13 rfl (by decide) hg_247 hK, fun U hU hW => ⟨rfl, hU, hh_273.2.1, hG.step hW hU hh_273.1, hg_247, hg_249, hgq_244_0, hg_250, hg_row_274, (hh_273.2.2.1.sub (L1 := [(r0, 13, 4, .ref bo), (bo, 2, 1, .int qc_244), (bo, 2, 0, .ref qa_244), (r0, 13, 3, .ref ou), (ou, 2, 1, .int count_271), (ou, 2, 0, .ref row_274)]) [5, 2, 3, 6, 1, 0] rfl), (hh_273.2.2.2.2.2.2.2.2.sub (L1 := [(jFy, jYb dC dI G_244)]) [0] rfl), ⟨(by first | omega | rfl | assumption | fail), (by first | omega | rfl | assumption | fail), (by first | omega | rfl | assumption | fail), (by first | omega | rfl | assumption | fail), (by first | omega | rfl | assumption | fail), (by first | omega | rfl | assumption | fail)⟩⟩⟩ rfl rfl hl.1 rfl (lv_room (Nat.le_of_ble_eq_true rfl)) dX11_request_59 ⟨by rw [hRc]; show _ + 0 ≤ _; omega, by rw [hRs]; show _ + 0 ≤ _; omega⟩) hh_273.1 (fun q _ h => h) (fun q h => h) (fun u_267 t_267 H_267 locs_267 ht_267 hvm_267 hr_268 hb_267 hz_267 hk_267 hS_267 => ?_)
      rw [ht_267] at hb_267
      obtain ⟨hb_267, hbE_267⟩ := hb_267
      obtain ⟨hb_267, hbO_267⟩ := hb_267
      obtain ⟨hb_2671, hb_2672, hb_2673, hb_2674, hb_2675⟩ := hb_267
      have hh_267 : jSt (dC, dI) B base G0 G_244 EX11_request s.heap ((m_qa_244 - n_pa) / 16 + 2) (2 * (m_qa_244 - n_pa) + 40 + pu.toInt.toNat) [(r0, 13, 11, .int 1), (r0, 13, 4, .ref bo), (r0, 13, 3, .ref ou), (r0, 13, 2, .ref js), (js, 6, 7, .int pv), (js, 6, 8, .int pu), (js, 6, 0, .ref wk), (js, 6, 1, .ref wi), (js, 6, 2, .ref wz), (js, 6, 5, .ref jks)] [(wk, 140, 1502, ca 1, fk), (wi, 141, 1502, ca 1, fi), (wz, 142, 1502, ca 1, fz), (jks, 145, 1502, ca 1, fs)] [(jFy, jYb dC dI G_244), (jFs11, jSef dC dI G_244), (jFl, jLs dC dI ca G_244 3 none)] H_267 locs_267 := (((hh_273.call hb_2671 hb_2672 hb_2673 hb_2674 hS_267 rfl (L1 := [(r0, 13, 11, .int 1), (r0, 13, 4, .ref bo), (r0, 13, 3, .ref ou), (r0, 13, 2, .ref js), (js, 6, 7, .int pv), (js, 6, 8, .int pu), (js, 6, 0, .ref wk), (js, 6, 1, .ref wi), (js, 6, 2, .ref wz), (js, 6, 5, .ref jks)]) [4, 5, 6, 7, 8, 9, 10, 11, 12, 13] rfl rfl (M1 := [(wk, 140, 1502, ca 1, fk), (wi, 141, 1502, ca 1, fi), (wz, 142, 1502, ca 1, fz), (jks, 145, 1502, ca 1, fs)]) [0, 1, 2, 3] rfl rfl (I1 := [(jFs11, jSef dC dI G_244), (jFl, jLs dC dI ca G_244 3 none)]) [2, 3] rfl rfl).more hb_2675)).addIs hbE_267
      have hh_275 := hh_267.more (P1 := [(bo, 2, 1, .int qc_244), (bo, 2, 0, .ref qa_244)]) (jP.cons hg_249 (hbO_267 _ _ _ _ (jn1 (by first | assumption | exact Ne.symm (by assumption) | exact jnek hg_249 hg_250 (by decide))) hg_249 (hh_273.at 2 rfl)) (jP.cons hg_249 (hbO_267 _ _ _ _ (jn1 (by first | assumption | exact Ne.symm (by assumption) | exact jnek hg_249 hg_250 (by decide))) hg_249 (hh_273.at 3 rfl)) jP.nil))
      have hd_276 := jOl.trL (hh_273.iv 1 rfl) hh_273.2.2.2.2.1 hbO_267 (by simp)
      have hh_277 := hh_275.addI (jOl.ie (dC := dC) (dI := dI) (G0 := G0) (k := 2) (rs := [bo, ou]) (H0 := s.heap) (F := [(2, 0), (2, 1)]) (C := RX0) (T := TX0) (N := 2) rfl (by decide) hh_275.2.2.2.2.1 (hd_276))
      clear hh_275
      clear hh_273 ht_267 hvm_267 hz_267 hk_267 hS_267 hb_2671 hb_2672 hb_2673 hb_2674 hb_2675
      clear  hbE_267
      refine lv_goto (tgt := 212) hx hb dX11_request_62 (by decide) ?_
      have hsz_278 := hh_277.2.2.2.2.2.1
      have htt_278 := hh_277.2.2.2.2.2.2.1
      refine W.room (fun hrc_278 hrs_278 => ?_)
      refine W.widen (k := LC - s.heap.size) (n := LS - jTot s.heap) (by omega) (by omega) ?_
      rw [hQ]
      exact W.vret hx hb hr (fun t ht hW => ⟨⟨(qc_244, qa_244, m_qa_244, G_244), rfl, by (try dsimp only); exact ⟨(by first | omega | rfl | assumption | fail), (by first | omega | rfl | assumption | fail), (by first | omega | rfl | assumption | fail), (by first | omega | rfl | assumption | fail), (by first | assumption | fail | omega)⟩, ⟨hh_277.ra (by first | omega | (simp only; omega)) (by first | omega | (simp only; omega)) (M1 := [(bo, 2, 1, .int qc_244), (bo, 2, 0, .ref qa_244)]) [0, 1] rfl ht, hgq_244_0, hNn_244, by rw [ht]; exact hh_277.iv 0 rfl, by rw [ht]; exact hh_277.2.2.2.2.2.2.2.2.sub (L1 := [(jFy, jYb dC dI G_244), (jFs11, jSef dC dI G_244), (jFl, jLs dC dI ca G_244 3 none)]) [1, 2, 3] rfl⟩⟩, by rw [ht]; try exact hh_277.1.1, fun q h9 hq => by rw [ht]; try exact hh_277.1.2.1 q h9 hq⟩) hh_277.1.2.2 dX11_request_212
end
