theorem dX5_opened_0 : decode cX5_opened 0 = .ok (.aload_n 0, 1) := by decide +kernel
theorem dX5_opened_1 : decode cX5_opened 1 = .ok (.aload_n 2, 1) := by decide +kernel
theorem dX5_opened_2 : decode cX5_opened 2 = .ok (.putfield 41, 3) := by decide +kernel
theorem dX5_opened_5 : decode cX5_opened 5 = .ok (.aload_n 0, 1) := by decide +kernel
theorem dX5_opened_6 : decode cX5_opened 6 = .ok (.getfield 44, 3) := by decide +kernel
theorem dX5_opened_9 : decode cX5_opened 9 = .ok (.iconst 0, 1) := by decide +kernel
theorem dX5_opened_10 : decode cX5_opened 10 = .ok (.iconst 0, 1) := by decide +kernel
theorem dX5_opened_11 : decode cX5_opened 11 = .ok (.iastore, 1) := by decide +kernel
theorem dX5_opened_12 : decode cX5_opened 12 = .ok (.aload_n 0, 1) := by decide +kernel
theorem dX5_opened_13 : decode cX5_opened 13 = .ok (.getfield 47, 3) := by decide +kernel
theorem dX5_opened_16 : decode cX5_opened 16 = .ok (.iconst 0, 1) := by decide +kernel
theorem dX5_opened_17 : decode cX5_opened 17 = .ok (.iload_n 3, 1) := by decide +kernel
theorem dX5_opened_18 : decode cX5_opened 18 = .ok (.aload_n 2, 1) := by decide +kernel
theorem dX5_opened_19 : decode cX5_opened 19 = .ok (.arraylength, 1) := by decide +kernel
theorem dX5_opened_20 : decode cX5_opened 20 = .ok (.invokestatic 303, 3) := by decide +kernel
theorem dX5_opened_23 : decode cX5_opened 23 = .ok (.iastore, 1) := by decide +kernel
theorem dX5_opened_24 : decode cX5_opened 24 = .ok (.aload_n 0, 1) := by decide +kernel
theorem dX5_opened_25 : decode cX5_opened 25 = .ok (.aload_n 1, 1) := by decide +kernel
theorem dX5_opened_26 : decode cX5_opened 26 = .ok (.iconst 1, 1) := by decide +kernel
theorem dX5_opened_27 : decode cX5_opened 27 = .ok (.aload_n 1, 1) := by decide +kernel
theorem dX5_opened_28 : decode cX5_opened 28 = .ok (.arraylength, 1) := by decide +kernel
theorem dX5_opened_29 : decode cX5_opened 29 = .ok (.iconst 1, 1) := by decide +kernel
theorem dX5_opened_30 : decode cX5_opened 30 = .ok (.invokevirtual 265, 3) := by decide +kernel
theorem dX5_opened_33 : decode cX5_opened 33 = .ok (.areturn, 1) := by decide +kernel
theorem dX5_instance_0 : decode cX5_instance 0 = .ok (.iconst 0, 1) := by decide +kernel
theorem dX5_instance_1 : decode cX5_instance 1 = .ok (.istore 5, 2) := by decide +kernel
theorem dX5_instance_3 : decode cX5_instance 3 = .ok (.iload_n 2, 1) := by decide +kernel
theorem dX5_instance_4 : decode cX5_instance 4 = .ok (.istore 6, 2) := by decide +kernel
theorem dX5_instance_6 : decode cX5_instance 6 = .ok (.iload 6, 2) := by decide +kernel
theorem dX5_instance_8 : decode cX5_instance 8 = .ok (.iload_n 3, 1) := by decide +kernel
theorem dX5_instance_9 : decode cX5_instance 9 = .ok (.if_icmp .ge 73, 3) := by decide +kernel
theorem dX5_instance_12 : decode cX5_instance 12 = .ok (.iload 6, 2) := by decide +kernel
theorem dX5_instance_14 : decode cX5_instance 14 = .ok (.aload_n 1, 1) := by decide +kernel
theorem dX5_instance_15 : decode cX5_instance 15 = .ok (.arraylength, 1) := by decide +kernel
theorem dX5_instance_16 : decode cX5_instance 16 = .ok (.if_icmp .ge 66, 3) := by decide +kernel
theorem dX5_instance_19 : decode cX5_instance 19 = .ok (.aload_n 1, 1) := by decide +kernel
theorem dX5_instance_20 : decode cX5_instance 20 = .ok (.iload 6, 2) := by decide +kernel
theorem dX5_instance_22 : decode cX5_instance 22 = .ok (.iaload, 1) := by decide +kernel
theorem dX5_instance_23 : decode cX5_instance 23 = .ok (.bipush 15, 2) := by decide +kernel
theorem dX5_instance_25 : decode cX5_instance 25 = .ok (.iand, 1) := by decide +kernel
theorem dX5_instance_26 : decode cX5_instance 26 = .ok (.bipush 10, 2) := by decide +kernel
theorem dX5_instance_28 : decode cX5_instance 28 = .ok (.if_icmp .ne 19, 3) := by decide +kernel
theorem dX5_instance_31 : decode cX5_instance 31 = .ok (.aload_n 1, 1) := by decide +kernel
theorem dX5_instance_32 : decode cX5_instance 32 = .ok (.iload 6, 2) := by decide +kernel
theorem dX5_instance_34 : decode cX5_instance 34 = .ok (.iaload, 1) := by decide +kernel
theorem dX5_instance_35 : decode cX5_instance 35 = .ok (.bipush 15, 2) := by decide +kernel
theorem dX5_instance_37 : decode cX5_instance 37 = .ok (.ishr, 1) := by decide +kernel
theorem dX5_instance_38 : decode cX5_instance 38 = .ok (.iload 4, 2) := by decide +kernel
theorem dX5_instance_40 : decode cX5_instance 40 = .ok (.if_icmp .ge 7, 3) := by decide +kernel
theorem dX5_instance_43 : decode cX5_instance 43 = .ok (.iconst 1, 1) := by decide +kernel
theorem dX5_instance_44 : decode cX5_instance 44 = .ok (.goto 4, 3) := by decide +kernel
theorem dX5_instance_47 : decode cX5_instance 47 = .ok (.iconst 0, 1) := by decide +kernel
theorem dX5_instance_48 : decode cX5_instance 48 = .ok (.istore 7, 2) := by decide +kernel
theorem dX5_instance_50 : decode cX5_instance 50 = .ok (.iload 5, 2) := by decide +kernel
theorem dX5_instance_52 : decode cX5_instance 52 = .ok (.iload 7, 2) := by decide +kernel
theorem dX5_instance_54 : decode cX5_instance 54 = .ok (.ifCond .eq 18, 3) := by decide +kernel
theorem dX5_instance_57 : decode cX5_instance 57 = .ok (.aload_n 0, 1) := by decide +kernel
theorem dX5_instance_58 : decode cX5_instance 58 = .ok (.getfield 47, 3) := by decide +kernel
theorem dX5_instance_61 : decode cX5_instance 61 = .ok (.aload_n 1, 1) := by decide +kernel
theorem dX5_instance_62 : decode cX5_instance 62 = .ok (.iload 6, 2) := by decide +kernel
theorem dX5_instance_64 : decode cX5_instance 64 = .ok (.iaload, 1) := by decide +kernel
theorem dX5_instance_65 : decode cX5_instance 65 = .ok (.bipush 15, 2) := by decide +kernel
theorem dX5_instance_67 : decode cX5_instance 67 = .ok (.ishr, 1) := by decide +kernel
theorem dX5_instance_68 : decode cX5_instance 68 = .ok (.iaload, 1) := by decide +kernel
theorem dX5_instance_69 : decode cX5_instance 69 = .ok (.goto 4, 3) := by decide +kernel
theorem dX5_instance_72 : decode cX5_instance 72 = .ok (.iconst 1, 1) := by decide +kernel
theorem dX5_instance_73 : decode cX5_instance 73 = .ok (.iadd, 1) := by decide +kernel
theorem dX5_instance_74 : decode cX5_instance 74 = .ok (.istore 5, 2) := by decide +kernel
theorem dX5_instance_76 : decode cX5_instance 76 = .ok (.iinc 6 1, 3) := by decide +kernel
theorem dX5_instance_79 : decode cX5_instance 79 = .ok (.goto (-73), 3) := by decide +kernel
theorem dX5_instance_82 : decode cX5_instance 82 = .ok (.iload 5, 2) := by decide +kernel
theorem dX5_instance_84 : decode cX5_instance 84 = .ok (.bipush 80, 2) := by decide +kernel
theorem dX5_instance_86 : decode cX5_instance 86 = .ok (.if_icmp .le 5, 3) := by decide +kernel
theorem dX5_instance_89 : decode cX5_instance 89 = .ok (.aconst_null, 1) := by decide +kernel
theorem dX5_instance_90 : decode cX5_instance 90 = .ok (.areturn, 1) := by decide +kernel
theorem dX5_instance_91 : decode cX5_instance 91 = .ok (.iload 5, 2) := by decide +kernel
theorem dX5_instance_93 : decode cX5_instance 93 = .ok (.newarray .int, 2) := by decide +kernel
theorem dX5_instance_95 : decode cX5_instance 95 = .ok (.astore 6, 2) := by decide +kernel
theorem dX5_instance_97 : decode cX5_instance 97 = .ok (.iconst 0, 1) := by decide +kernel
theorem dX5_instance_98 : decode cX5_instance 98 = .ok (.istore 7, 2) := by decide +kernel
theorem dX5_instance_100 : decode cX5_instance 100 = .ok (.iload_n 2, 1) := by decide +kernel
theorem dX5_instance_101 : decode cX5_instance 101 = .ok (.istore 8, 2) := by decide +kernel
theorem dX5_instance_103 : decode cX5_instance 103 = .ok (.iload 8, 2) := by decide +kernel
theorem dX5_instance_105 : decode cX5_instance 105 = .ok (.iload_n 3, 1) := by decide +kernel
theorem dX5_instance_106 : decode cX5_instance 106 = .ok (.if_icmp .ge 130, 3) := by decide +kernel
theorem dX5_instance_109 : decode cX5_instance 109 = .ok (.iload 8, 2) := by decide +kernel
theorem dX5_instance_111 : decode cX5_instance 111 = .ok (.aload_n 1, 1) := by decide +kernel
theorem dX5_instance_112 : decode cX5_instance 112 = .ok (.arraylength, 1) := by decide +kernel
theorem dX5_instance_113 : decode cX5_instance 113 = .ok (.if_icmp .ge 123, 3) := by decide +kernel
theorem dX5_instance_116 : decode cX5_instance 116 = .ok (.iload 7, 2) := by decide +kernel
theorem dX5_instance_118 : decode cX5_instance 118 = .ok (.iload 5, 2) := by decide +kernel
theorem dX5_instance_120 : decode cX5_instance 120 = .ok (.if_icmp .ge 116, 3) := by decide +kernel
theorem dX5_instance_123 : decode cX5_instance 123 = .ok (.aload_n 1, 1) := by decide +kernel
theorem dX5_instance_124 : decode cX5_instance 124 = .ok (.iload 8, 2) := by decide +kernel
theorem dX5_instance_126 : decode cX5_instance 126 = .ok (.iaload, 1) := by decide +kernel
theorem dX5_instance_127 : decode cX5_instance 127 = .ok (.bipush 15, 2) := by decide +kernel
theorem dX5_instance_129 : decode cX5_instance 129 = .ok (.iand, 1) := by decide +kernel
theorem dX5_instance_130 : decode cX5_instance 130 = .ok (.bipush 10, 2) := by decide +kernel
theorem dX5_instance_132 : decode cX5_instance 132 = .ok (.if_icmp .ne 13, 3) := by decide +kernel
theorem dX5_instance_135 : decode cX5_instance 135 = .ok (.aload_n 1, 1) := by decide +kernel
theorem dX5_instance_136 : decode cX5_instance 136 = .ok (.iload 8, 2) := by decide +kernel
theorem dX5_instance_138 : decode cX5_instance 138 = .ok (.iaload, 1) := by decide +kernel
theorem dX5_instance_139 : decode cX5_instance 139 = .ok (.bipush 15, 2) := by decide +kernel
theorem dX5_instance_141 : decode cX5_instance 141 = .ok (.ishr, 1) := by decide +kernel
theorem dX5_instance_142 : decode cX5_instance 142 = .ok (.goto 4, 3) := by decide +kernel
theorem dX5_instance_145 : decode cX5_instance 145 = .ok (.iconst (-1), 1) := by decide +kernel
theorem dX5_instance_146 : decode cX5_instance 146 = .ok (.istore 9, 2) := by decide +kernel
theorem dX5_instance_148 : decode cX5_instance 148 = .ok (.iload 9, 2) := by decide +kernel
theorem dX5_instance_150 : decode cX5_instance 150 = .ok (.ifCond .lt 50, 3) := by decide +kernel
theorem dX5_instance_153 : decode cX5_instance 153 = .ok (.iload 9, 2) := by decide +kernel
theorem dX5_instance_155 : decode cX5_instance 155 = .ok (.iload 4, 2) := by decide +kernel
theorem dX5_instance_157 : decode cX5_instance 157 = .ok (.if_icmp .ge 43, 3) := by decide +kernel
theorem dX5_instance_160 : decode cX5_instance 160 = .ok (.aload_n 0, 1) := by decide +kernel
theorem dX5_instance_161 : decode cX5_instance 161 = .ok (.getfield 41, 3) := by decide +kernel
theorem dX5_instance_164 : decode cX5_instance 164 = .ok (.aload_n 0, 1) := by decide +kernel
theorem dX5_instance_165 : decode cX5_instance 165 = .ok (.getfield 44, 3) := by decide +kernel
theorem dX5_instance_168 : decode cX5_instance 168 = .ok (.iload 9, 2) := by decide +kernel
theorem dX5_instance_170 : decode cX5_instance 170 = .ok (.iaload, 1) := by decide +kernel
theorem dX5_instance_171 : decode cX5_instance 171 = .ok (.aload 6, 2) := by decide +kernel
theorem dX5_instance_173 : decode cX5_instance 173 = .ok (.iload 7, 2) := by decide +kernel
theorem dX5_instance_175 : decode cX5_instance 175 = .ok (.aload_n 0, 1) := by decide +kernel
theorem dX5_instance_176 : decode cX5_instance 176 = .ok (.getfield 47, 3) := by decide +kernel
theorem dX5_instance_179 : decode cX5_instance 179 = .ok (.iload 9, 2) := by decide +kernel
theorem dX5_instance_181 : decode cX5_instance 181 = .ok (.iaload, 1) := by decide +kernel
theorem dX5_instance_182 : decode cX5_instance 182 = .ok (.invokestatic 279, 3) := by decide +kernel
theorem dX5_instance_185 : decode cX5_instance 185 = .ok (.iload 7, 2) := by decide +kernel
theorem dX5_instance_187 : decode cX5_instance 187 = .ok (.aload_n 0, 1) := by decide +kernel
theorem dX5_instance_188 : decode cX5_instance 188 = .ok (.getfield 47, 3) := by decide +kernel
theorem dX5_instance_191 : decode cX5_instance 191 = .ok (.iload 9, 2) := by decide +kernel
theorem dX5_instance_193 : decode cX5_instance 193 = .ok (.iaload, 1) := by decide +kernel
theorem dX5_instance_194 : decode cX5_instance 194 = .ok (.iadd, 1) := by decide +kernel
theorem dX5_instance_195 : decode cX5_instance 195 = .ok (.istore 7, 2) := by decide +kernel
theorem dX5_instance_197 : decode cX5_instance 197 = .ok (.goto 33, 3) := by decide +kernel
theorem dX5_instance_200 : decode cX5_instance 200 = .ok (.aload 6, 2) := by decide +kernel
theorem dX5_instance_202 : decode cX5_instance 202 = .ok (.iload 7, 2) := by decide +kernel
theorem dX5_instance_204 : decode cX5_instance 204 = .ok (.iload 9, 2) := by decide +kernel
theorem dX5_instance_206 : decode cX5_instance 206 = .ok (.ifCond .ge 10, 3) := by decide +kernel
theorem dX5_instance_209 : decode cX5_instance 209 = .ok (.aload_n 1, 1) := by decide +kernel
theorem dX5_instance_210 : decode cX5_instance 210 = .ok (.iload 8, 2) := by decide +kernel
theorem dX5_instance_212 : decode cX5_instance 212 = .ok (.iaload, 1) := by decide +kernel
theorem dX5_instance_213 : decode cX5_instance 213 = .ok (.goto 13, 3) := by decide +kernel
theorem dX5_instance_216 : decode cX5_instance 216 = .ok (.aload_n 1, 1) := by decide +kernel
theorem dX5_instance_217 : decode cX5_instance 217 = .ok (.iload 8, 2) := by decide +kernel
theorem dX5_instance_219 : decode cX5_instance 219 = .ok (.iaload, 1) := by decide +kernel
theorem dX5_instance_220 : decode cX5_instance 220 = .ok (.iload 4, 2) := by decide +kernel
theorem dX5_instance_222 : decode cX5_instance 222 = .ok (.bipush 15, 2) := by decide +kernel
theorem dX5_instance_224 : decode cX5_instance 224 = .ok (.ishl, 1) := by decide +kernel
theorem dX5_instance_225 : decode cX5_instance 225 = .ok (.isub, 1) := by decide +kernel
theorem dX5_instance_226 : decode cX5_instance 226 = .ok (.iastore, 1) := by decide +kernel
theorem dX5_instance_227 : decode cX5_instance 227 = .ok (.iinc 7 1, 3) := by decide +kernel
theorem dX5_instance_230 : decode cX5_instance 230 = .ok (.iinc 8 1, 3) := by decide +kernel
theorem dX5_instance_233 : decode cX5_instance 233 = .ok (.goto (-130), 3) := by decide +kernel
theorem dX5_instance_236 : decode cX5_instance 236 = .ok (.aload 6, 2) := by decide +kernel
theorem dX5_instance_238 : decode cX5_instance 238 = .ok (.areturn, 1) := by decide +kernel
def EX5_instance : List (Nat × Nat) := []
def EX5_opened : List (Nat × Nat) := [(7, 5), (290, 0), (291, 0)]
set_option maxHeartbeats 4000000 in
set_option maxRecDepth 20000 in
theorem uX5_instance (l : Launch) (dC : Nat → ClassId) (dI : Nat → Nat → Nat) (ca : Nat → ClassId) (base : Nat) (B : jF) (hB : jBok B) (hAp : jAp (dC, dI)) (hB7 : ∀ n G a H, B 7 n G a H ↔ jOb (dC, dI) 7 11 (F7 n G) a H) (hB280 : ∀ n G a H, B 280 n G a H ↔ jAr (dC, dI) (ca 1) (fun j z => -1 ≤ z.toInt) n a H) (hB290 : ∀ n G a H, B 290 n G a H ↔ jAr (dC, dI) (ca 1) (fun j z => 0 ≤ z.toInt ∧ z.toInt ≤ 3000) n a H) (hB291 : ∀ n G a H, B 291 n G a H ↔ jAr (dC, dI) (ca 1) (fun j z => 0 ≤ z.toInt ∧ z.toInt ≤ 3000) n a H) (G0 : jT) (H0 : Heap) (r0 : Nat) (r1 : Nat) (a2 : Int32) (a3 : Int32) (a4 : Int32) (n1 : Nat) (so : Nat) (n_so : Nat) (xf : Nat) (xt : Nat) (ff : Nat → Int32) (fx : Nat → Int32) (ft : Nat → Int32) (LC LS : Nat) : Met l yX5_instance (jw yX5_instance cX5_instance 10 (some (.array .int))) ({ frames := 1, cells := LC - H0.size, slots := LS - jTot H0, locals := 61 }) (va_Pc [.ref r0, .ref r1, .int a2, .int a3, .int a4] (fun U => U.heap = H0 ∧ jX B base G0 [] H0 ∧ jG dC dI ca base U ∧ G0 r1 = some (280, n1) ∧ G0 r0 = some (7, 0) ∧ G0 so = some (280, n_so) ∧ G0 xf = some (290, 13) ∧ G0 xt = some (291, 13) ∧ jP (dC, dI) G0 H0 [(r0, 7, 5, .ref so), (r0, 7, 6, .ref xf), (r0, 7, 7, .ref xt)] ∧ jMc (dC, dI) G0 H0 [(r1, 280, n1, ca 1, ff), (xf, 290, 13, ca 1, fx), (xt, 291, 13, ca 1, ft)] ∧ H0.size + 1 ≤ LC ∧ jTot H0 + 80 ≤ LS ∧ jTbk fx ft n_so a4.toInt ∧ n1 ≤ 80 ∧ 0 ≤ a2.toInt ∧ 0 ≤ a4.toInt ∧ a4.toInt ≤ 12 ∧ n_so ≤ 3000)) (jQx (S := Nat × jT) (fun v u => (v = .null ∨ (jRf u.2 280 u.1 v ∧ jNwv v H0)) ∧ u.1 ≤ 80) (fun u t => jRa (dC, dI) B base G0 u.2 EX5_instance H0 (1) (80) [] t.heap ∧ (jNk [0, 1, 2, 3, 4, 5, 6, 7, 8, 9, 10, 11, 12, 13, 14, 15, 16]) G0 u.2 ∧ jKe G0 u.2 H0 t.heap) (jA base)) (LC - H0.size) (LS - jTot H0) (jA base) := by
  refine Met.ofW (cc := cX5_instance) (maxL := 10) (ret := (some (.array .int))) (by decide) rfl ?_
  intro p e s m args below meth c s₁ Bd hml hv
  obtain ⟨rfl, hH0, hX, hG, hg_r1, hg_r0, hg_so, hg_xf, hg_xt, hP0, hM0, hLC0, hLS0, hp0, hp1, hp2, hp3, hp4, hp5⟩ := hv
  have hK := hG.1
  have hx := Bd.exec
  have hb := Bd.bytes
  have hr := Bd.returns
  have hts := atoms_spec (ws := (jw yX5_instance cX5_instance 10 (some (.array .int)))) Bd.pre
  have htw : ∀ w ∈ jWl, w.before _ s = true := fun w h => hts w (List.mem_cons_of_mem _ h)
  have hown : s.vm.findClass RX5 = some m.cls := findClass_of_methodNamed Bd.named
  have hlocks := Bd.notSynchronized
  obtain ⟨Q, hQ⟩ : ∃ Q, Q = MQ below (jQx (S := Nat × jT) (fun v u => (v = .null ∨ (jRf u.2 280 u.1 v ∧ jNwv v H0)) ∧ u.1 ≤ 80) (fun u t => jRa (dC, dI) B base G0 u.2 EX5_instance H0 (1) (80) [] t.heap ∧ (jNk [0, 1, 2, 3, 4, 5, 6, 7, 8, 9, 10, 11, 12, 13, 14, 15, 16]) G0 u.2 ∧ jKe G0 u.2 H0 t.heap) (jA base)) ([.ref r0, .ref r1, .int a2, .int a3, .int a4] : List Value).toArray s (LC - H0.size) (LS - jTot H0) (jA base) := ⟨_, rfl⟩
  rw [← hQ]
  have hl := lv_entry ([.ref r0, .ref r1, .int a2, .int a3, .int a4]) (n := 10) (Nat.le_of_ble_eq_true rfl)
  rw [lg_entry_eq]
  generalize (lg_sl ([.ref r0, .ref r1, .int a2, .int a3, .int a4]) ++ List.replicate (10 - (lg_sl ([.ref r0, .ref r1, .int a2, .int a3, .int a4])).length) Slot.unset).toArray = ls at hl ⊢
  have hl : lv_has ls 10 [(0, .ref r0), (1, .ref r1), (2, .int a2), (3, .int a3), (4, .int a4)] := hl
  generalize hR : (headSpec (jw yX5_instance cX5_instance 10 (some (.array .int))) ({ frames := 1, cells := LC - H0.size, slots := LS - jTot H0, locals := 61 })).room = R
  subst hH0
  have hh : jSt (dC, dI) B base G0 G0 EX5_instance s.heap 0 0 [(r0, 7, 5, .ref so), (r0, 7, 6, .ref xf), (r0, 7, 7, .ref xt)] [(r1, 280, n1, ca 1, ff), (xf, 290, 13, ca 1, fx), (xt, 291, 13, ca 1, ft)] [] s.heap [] := jSt.start hX hP0 hM0 jIs.nil
  clear hX hP0
  have hkm1 : ((-1) : Int32).toInt = (-1) := by decide
  have hk0 : (0 : Int32).toInt = 0 := by decide
  have hk1 : (1 : Int32).toInt = 1 := by decide
  have hk10 : (10 : Int32).toInt = 10 := by decide
  have hk15 : (15 : Int32).toInt = 15 := by decide
  have hk80 : (80 : Int32).toInt = 80 := by decide
  have hly_7_5 := htw (u_lay RX5 TX5 5) (jWc_wsX50 _ (u_in_lay (by decide)))
  have hly_7_6 := htw (u_lay RX5 TX5 6) (jWc_wsX50 _ (u_in_lay (by decide)))
  have hly_7_7 := htw (u_lay RX5 TX5 7) (jWc_wsX50 _ (u_in_lay (by decide)))
  have hlk_47 := (htw (.fieldLink RX5 47 "ProofServer$Kernel" "termSize" "[I") (jWr_5 _ (List.mem_of_getElem? (i := 0) rfl)))
  have hlk_41 := (htw (.fieldLink RX5 41 "ProofServer$Kernel" "source" "[I") (jWr_4 _ (List.mem_of_getElem? (i := 22) rfl)))
  have hlk_44 := (htw (.fieldLink RX5 44 "ProofServer$Kernel" "termFrom" "[I") (jWr_4 _ (List.mem_of_getElem? (i := 23) rfl)))
  have hrg_a2 := jb_rng a2
  have hrg_a3 := jb_rng a3
  have hrg_a4 := jb_rng a4
  have hbs : base ≤ s.heap.size := Nat.le_of_lt (Nat.lt_of_le_of_lt (hh.ab hg_r0).1 (hh.ab hg_r0).2)
  have hRc : R.cells = LC - s.heap.size := by rw [← hR]; rfl
  have hRs : R.slots = LS - jTot s.heap := by rw [← hR]; rfl
  have hkp : jKe G0 G0 s.heap s.heap := jKe.rf
  have hff := jNn1.of (hh.allP hB280 (by decide) 0 rfl)
  have hft := jNn0.of (hh.allP hB291 (by decide) 2 rfl)
  refine lv_iconst (v := 0) hx hb dX5_instance_0 (by decide) ?_
  refine lv_istore (lv' := [(5, .int 0), (0, .ref r0), (1, .ref r1), (2, .int a2), (3, .int a3), (4, .int a4)]) hx hb dX5_instance_1 hl (by decide) rfl (fun ls hl => ?_)
  refine lv_iload_n hx hb dX5_instance_3 rfl (lv_at hl 3 rfl) ?_
  refine lv_istore (lv' := [(6, .int a2), (5, .int 0), (0, .ref r0), (1, .ref r1), (2, .int a2), (3, .int a3), (4, .int a4)]) hx hb dX5_instance_4 hl (by decide) rfl (fun ls hl => ?_)
  have L6 : ∀ (N : Nat) (v5_1 : Int32) (v6_1 : Int32) (H_1 : Heap) (locs_1 : List Loc), jSt (dC, dI) B base G0 G0 EX5_instance s.heap 0 0 [(r0, 7, 5, .ref so), (r0, 7, 6, .ref xf), (r0, 7, 7, .ref xt)] [(r1, 280, n1, ca 1, ff), (xf, 290, 13, ca 1, fx), (xt, 291, 13, ca 1, ft)] [] H_1 locs_1 → jKe G0 G0 s.heap H_1 → (a2.toInt ≤ v6_1.toInt ∧ 0 ≤ v5_1.toInt ∧ v5_1.toInt ≤ 3000 * (v6_1.toInt - a2.toInt) ∧ (v6_1.toInt ≤ n1 ∨ v6_1.toInt = a2.toInt) ∧ jPqk ff ft a4.toInt a2.toInt v6_1.toInt v5_1.toInt) → (((n1 - v6_1.toInt).toNat : Int) : Int) < N → ∀ ls : Array Slot, lv_has ls 10 [(0, .ref r0), (1, .ref r1), (2, .int a2), (3, .int a3), (4, .int a4), (5, .int v5_1), (6, .int v6_1)] → W p l e R s m ([.ref r0, .ref r1, .int a2, .int a3, .int a4] : List Value).toArray below meth c H_1 locs_1 0 0 Q (F0 m 6 ls []) := by
    intro N
    induction N with
    | zero => intro v5_1 v6_1 H_1 locs_1 hh_1 hkp_1 hi_1 hm; exact absurd hm (by omega)
    | succ N L6 =>
      intro v5_1 v6_1 H_1 locs_1 hh_1 hkp_1 hi_1 hm_1 ls hl
      obtain ⟨hi_1_0, hi_1_1, hi_1_2, hi_1_3, hi_1_4⟩ := hi_1
      refine lv_iload hx hb dX5_instance_6 (lv_at hl 6 rfl) ?_
      refine lv_iload_n hx hb dX5_instance_8 rfl (lv_at hl 3 rfl) ?_
      have C82 : ∀ (H_2 : Heap) (locs_2 : List Loc), jSt (dC, dI) B base G0 G0 EX5_instance s.heap 0 0 [(r0, 7, 5, .ref so), (r0, 7, 6, .ref xf), (r0, 7, 7, .ref xt)] [(r1, 280, n1, ca 1, ff), (xf, 290, 13, ca 1, fx), (xt, 291, 13, ca 1, ft)] [] H_2 locs_2 → jKe G0 G0 s.heap H_2 → (a3.toInt ≤ v6_1.toInt ∨ n1 ≤ v6_1.toInt) → ∀ ls : Array Slot, lv_has ls 10 [(0, .ref r0), (1, .ref r1), (2, .int a2), (3, .int a3), (4, .int a4), (5, .int v5_1), (6, .int v6_1)] → W p l e R s m ([.ref r0, .ref r1, .int a2, .int a3, .int a4] : List Value).toArray below meth c H_2 locs_2 0 0 Q (F0 m 82 ls []) := by
        intro  H_2 locs_2 hh_2 hkp_2 hi_2 ls hl
        refine lv_iload hx hb dX5_instance_82 (lv_at hl 5 rfl) ?_
        refine lv_bipush (v := 80) hx hb dX5_instance_84 (by decide) ?_
        refine lv_icmp_le (tgt := 91) hx hb dX5_instance_86 (by decide) (fun c_3 => ?_) (fun c_3 => ?_)
        · skip
          have c_3' : v5_1.toInt ≤ 80 := jb_le (rfl) ((by decide)) c_3
          refine lv_iload hx hb dX5_instance_91 (lv_at hl 5 rfl) ?_
          have hsz_4 := hh_2.2.2.2.2.2.1
          have htt_4 := hh_2.2.2.2.2.2.2.1
          have hsy_4 : s.heap.size ≤ H_2.size := hh_2.1.1
          refine j7_newiR hx hb hK hh_2 hB (atype := .int) (ty := .int) (htw (.arrayClass .int) (jWr_3 _ (List.mem_of_getElem? (i := 20) rfl))) rfl rfl (fun _ h => h) 1 rfl (by decide) (x := v5_1.toInt) rfl (by omega) (by rw [hRc]; omega) (by rw [hRs]; omega) dX5_instance_93 (fun H_4 hfr_4 hnr_4 hraw_4 hh_4 => ?_)
          have hke_4 : jKe G0 G0 H_2 H_4 := jKe.raw hfr_4
          have hbr_4 : base ≤ H_2.size := Nat.le_trans hbs hsy_4
          obtain ⟨nq_4, hnq_4⟩ : ∃ q : Nat, q = (v5_1.toInt).toNat := ⟨_, rfl⟩
          rw [← hnq_4] at hraw_4 hh_4 ⊢
          clear hh_2
          have hkp_5 := hkp_2.tr hke_4
          refine lv_astore (lv' := [(6, .ref H_2.size), (0, .ref r0), (1, .ref r1), (2, .int a2), (3, .int a3), (4, .int a4), (5, .int v5_1)]) hx hb dX5_instance_95 hl (by decide) rfl (fun ls hl => ?_)
          refine lv_iconst (v := 0) hx hb dX5_instance_97 (by decide) ?_
          refine lv_istore (lv' := [(7, .int 0), (6, .ref H_2.size), (0, .ref r0), (1, .ref r1), (2, .int a2), (3, .int a3), (4, .int a4), (5, .int v5_1)]) hx hb dX5_instance_98 hl (by decide) rfl (fun ls hl => ?_)
          refine lv_iload_n hx hb dX5_instance_100 rfl (lv_at hl 4 rfl) ?_
          refine lv_istore (lv' := [(8, .int a2), (7, .int 0), (6, .ref H_2.size), (0, .ref r0), (1, .ref r1), (2, .int a2), (3, .int a3), (4, .int a4), (5, .int v5_1)]) hx hb dX5_instance_101 hl (by decide) rfl (fun ls hl => ?_)
          have L103 : ∀ (N : Nat) (fq_6 : Nat → Int32) (v7_6 : Int32) (v8_6 : Int32) (H_6 : Heap) (locs_6 : List Loc), jSt (dC, dI) B base G0 G0 EX5_instance s.heap (0 + 1) (0 + nq_4) [(r0, 7, 5, .ref so), (r0, 7, 6, .ref xf), (r0, 7, 7, .ref xt)] [(r1, 280, n1, ca 1, ff), (xf, 290, 13, ca 1, fx), (xt, 291, 13, ca 1, ft)] [] H_6 locs_6 → va_at (dC, dI) vwCl (H_2.size, .inl (ca 1, nq_4, .inl fq_6)) H_6 → jKe G0 G0 s.heap H_6 → (a2.toInt ≤ v8_6.toInt ∧ (v8_6.toInt ≤ n1 ∨ v8_6.toInt = a2.toInt) ∧ 0 ≤ v7_6.toInt ∧ v7_6.toInt ≤ v5_1.toInt ∧ jPqk ff ft a4.toInt a2.toInt v8_6.toInt v7_6.toInt ∧ jFp fq_6) → (((n1 - v8_6.toInt).toNat : Int) : Int) < N → ∀ ls : Array Slot, lv_has ls 10 [(0, .ref r0), (1, .ref r1), (2, .int a2), (3, .int a3), (4, .int a4), (5, .int v5_1), (6, .ref H_2.size), (7, .int v7_6), (8, .int v8_6)] → W p l e R s m ([.ref r0, .ref r1, .int a2, .int a3, .int a4] : List Value).toArray below meth c H_6 locs_6 (0 + 1) (0 + nq_4) Q (F0 m 103 ls []) := by
            intro N
            induction N with
            | zero => intro fq_6 v7_6 v8_6 H_6 locs_6 hh_6 hraw_6 hkp_6 hi_6 hm; exact absurd hm (by omega)
            | succ N L103 =>
              intro fq_6 v7_6 v8_6 H_6 locs_6 hh_6 hraw_6 hkp_6 hi_6 hm_6 ls hl
              obtain ⟨hi_6_0, hi_6_1, hi_6_2, hi_6_3, hi_6_4, hi_6_5⟩ := hi_6
              refine lv_iload hx hb dX5_instance_103 (lv_at hl 8 rfl) ?_
              refine lv_iload_n hx hb dX5_instance_105 rfl (lv_at hl 3 rfl) ?_
              refine lv_icmp_ge (tgt := 236) hx hb dX5_instance_106 (by decide) (fun c_7 => ?_) (fun c_7 => ?_)
              · skip
                have c_7' : v8_6.toInt ≥ a3.toInt := jb_ge (rfl) (rfl) c_7
                refine lv_aload hx hb dX5_instance_236 (lv_at hl 6 rfl) ?_
                have hsz_8 := hh_6.2.2.2.2.2.1
                have htt_8 := hh_6.2.2.2.2.2.2.1
                refine W.room (fun hrc_8 hrs_8 => ?_)
                refine W.widen (k := LC - s.heap.size) (n := LS - jTot s.heap) (by omega) (by omega) ?_
                rw [hQ]
                have hle_9 : jLe G0 (va_up G0 H_2.size (some (280, nq_4))) := jLe.typ hnr_4
                have hh_9 := hh_6.typ (k := 280) (n := nq_4) hB hnr_4 hbr_4 hraw_6.lt (jAr.of hB280 hraw_6 (fun j _ => hi_6_5 j))
                have hgn_9 : (va_up G0 H_2.size (some (280, nq_4))) H_2.size = some (280, nq_4) := jUp_self
                have hN_9 : (jNk [0, 1, 2, 3, 4, 5, 6, 7, 8, 9, 10, 11, 12, 13, 14, 15, 16]) G0 (va_up G0 H_2.size (some (280, nq_4))) := jNk.new (by decide)
                have hNn_9 : (jNk [0, 1, 2, 3, 4, 5, 6, 7, 8, 9, 10, 11, 12, 13, 14, 15, 16]) G0 (va_up G0 H_2.size (some (280, nq_4))) := (jNk.rf).tr hN_9
                have hkp_10 := hkp_6.typn (t := some (280, nq_4)) hsy_4
                exact W.aret (v := .ref H_2.size) hx hb hr (Or.inr ⟨_, rfl⟩) (Or.inr ⟨_, rfl⟩) (fun t ht hW => ⟨⟨.ref H_2.size, (nq_4, (va_up G0 H_2.size (some (280, nq_4)))), rfl, ⟨Or.inr ⟨⟨_, rfl, hgn_9⟩, ⟨_, rfl, hsy_4⟩⟩, by (try dsimp only); first | omega | rfl | assumption | fail⟩, ⟨hh_9.ra (by first | omega | (simp only; omega)) (by first | omega | (simp only; omega)) (M1 := []) [] rfl ht, hNn_9, by rw [ht]; exact hkp_10⟩⟩, by rw [ht]; try exact hh_9.1.1, fun q h9 hq => by rw [ht]; try exact hh_9.1.2.1 q h9 hq⟩) hh_9.1.2.2 dX5_instance_238
              · skip
                have c_7' : v8_6.toInt < a3.toInt := jb_ge_n (rfl) (rfl) c_7
                refine lv_iload hx hb dX5_instance_109 (lv_at hl 8 rfl) ?_
                refine lv_aload_n hx hb dX5_instance_111 rfl (lv_at hl 1 rfl) ?_
                refine j7_len hx hb hK hh_6 hB280 1 rfl (by decide) hg_r1 (by omega) dX5_instance_112 (fun z_11 hz_11 => ?_)
                refine lv_icmp_ge (tgt := 236) hx hb dX5_instance_113 (by decide) (fun c_12 => ?_) (fun c_12 => ?_)
                · skip
                  have c_12' : v8_6.toInt ≥ z_11.toInt := jb_ge (rfl) (rfl) c_12
                  refine lv_aload hx hb dX5_instance_236 (lv_at hl 6 rfl) ?_
                  have hsz_13 := hh_6.2.2.2.2.2.1
                  have htt_13 := hh_6.2.2.2.2.2.2.1
                  refine W.room (fun hrc_13 hrs_13 => ?_)
                  refine W.widen (k := LC - s.heap.size) (n := LS - jTot s.heap) (by omega) (by omega) ?_
                  rw [hQ]
                  have hle_14 : jLe G0 (va_up G0 H_2.size (some (280, nq_4))) := jLe.typ hnr_4
                  have hh_14 := hh_6.typ (k := 280) (n := nq_4) hB hnr_4 hbr_4 hraw_6.lt (jAr.of hB280 hraw_6 (fun j _ => hi_6_5 j))
                  have hgn_14 : (va_up G0 H_2.size (some (280, nq_4))) H_2.size = some (280, nq_4) := jUp_self
                  have hN_14 : (jNk [0, 1, 2, 3, 4, 5, 6, 7, 8, 9, 10, 11, 12, 13, 14, 15, 16]) G0 (va_up G0 H_2.size (some (280, nq_4))) := jNk.new (by decide)
                  have hNn_14 : (jNk [0, 1, 2, 3, 4, 5, 6, 7, 8, 9, 10, 11, 12, 13, 14, 15, 16]) G0 (va_up G0 H_2.size (some (280, nq_4))) := (jNk.rf).tr hN_14
                  have hkp_15 := hkp_6.typn (t := some (280, nq_4)) hsy_4
                  exact W.aret (v := .ref H_2.size) hx hb hr (Or.inr ⟨_, rfl⟩) (Or.inr ⟨_, rfl⟩) (fun t ht hW => ⟨⟨.ref H_2.size, (nq_4, (va_up G0 H_2.size (some (280, nq_4)))), rfl, ⟨Or.inr ⟨⟨_, rfl, hgn_14⟩, ⟨_, rfl, hsy_4⟩⟩, by (try dsimp only); first | omega | rfl | assumption | fail⟩, ⟨hh_14.ra (by first | omega | (simp only; omega)) (by first | omega | (simp only; omega)) (M1 := []) [] rfl ht, hNn_14, by rw [ht]; exact hkp_15⟩⟩, by rw [ht]; try exact hh_14.1.1, fun q h9 hq => by rw [ht]; try exact hh_14.1.2.1 q h9 hq⟩) hh_14.1.2.2 dX5_instance_238
                · skip
                  have c_12' : v8_6.toInt < z_11.toInt := jb_ge_n (rfl) (rfl) c_12
                  refine lv_iload hx hb dX5_instance_116 (lv_at hl 7 rfl) ?_
                  refine lv_iload hx hb dX5_instance_118 (lv_at hl 5 rfl) ?_
                  refine lv_icmp_ge (tgt := 236) hx hb dX5_instance_120 (by decide) (fun c_16 => ?_) (fun c_16 => ?_)
                  · skip
                    have c_16' : v7_6.toInt ≥ v5_1.toInt := jb_ge (rfl) (rfl) c_16
                    refine lv_aload hx hb dX5_instance_236 (lv_at hl 6 rfl) ?_
                    have hsz_17 := hh_6.2.2.2.2.2.1
                    have htt_17 := hh_6.2.2.2.2.2.2.1
                    refine W.room (fun hrc_17 hrs_17 => ?_)
                    refine W.widen (k := LC - s.heap.size) (n := LS - jTot s.heap) (by omega) (by omega) ?_
                    rw [hQ]
                    have hle_18 : jLe G0 (va_up G0 H_2.size (some (280, nq_4))) := jLe.typ hnr_4
                    have hh_18 := hh_6.typ (k := 280) (n := nq_4) hB hnr_4 hbr_4 hraw_6.lt (jAr.of hB280 hraw_6 (fun j _ => hi_6_5 j))
                    have hgn_18 : (va_up G0 H_2.size (some (280, nq_4))) H_2.size = some (280, nq_4) := jUp_self
                    have hN_18 : (jNk [0, 1, 2, 3, 4, 5, 6, 7, 8, 9, 10, 11, 12, 13, 14, 15, 16]) G0 (va_up G0 H_2.size (some (280, nq_4))) := jNk.new (by decide)
                    have hNn_18 : (jNk [0, 1, 2, 3, 4, 5, 6, 7, 8, 9, 10, 11, 12, 13, 14, 15, 16]) G0 (va_up G0 H_2.size (some (280, nq_4))) := (jNk.rf).tr hN_18
                    have hkp_19 := hkp_6.typn (t := some (280, nq_4)) hsy_4
                    exact W.aret (v := .ref H_2.size) hx hb hr (Or.inr ⟨_, rfl⟩) (Or.inr ⟨_, rfl⟩) (fun t ht hW => ⟨⟨.ref H_2.size, (nq_4, (va_up G0 H_2.size (some (280, nq_4)))), rfl, ⟨Or.inr ⟨⟨_, rfl, hgn_18⟩, ⟨_, rfl, hsy_4⟩⟩, by (try dsimp only); first | omega | rfl | assumption | fail⟩, ⟨hh_18.ra (by first | omega | (simp only; omega)) (by first | omega | (simp only; omega)) (M1 := []) [] rfl ht, hNn_18, by rw [ht]; exact hkp_19⟩⟩, by rw [ht]; try exact hh_18.1.1, fun q h9 hq => by rw [ht]; try exact hh_18.1.2.1 q h9 hq⟩) hh_18.1.2.2 dX5_instance_238
                  · skip
                    have c_16' : v7_6.toInt < v5_1.toInt := jb_ge_n (rfl) (rfl) c_16
                    refine lv_aload_n hx hb dX5_instance_123 rfl (lv_at hl 1 rfl) ?_
                    refine lv_iload hx hb dX5_instance_124 (lv_at hl 8 rfl) ?_
                    refine j7_ialdM hx hb hK hh_6 hB280 1 rfl (by decide) hg_r1 (x := v8_6.toInt) (rfl) (by omega) (j := 0) rfl dX5_instance_126 (fun z_20 ez_20 (hz_20 : -1 ≤ z_20.toInt) => ?_)
                    have hqz_20 : z_20.toInt = jSo ff (v8_6.toInt) := by unfold jSo; rw [ez_20]
                    refine lv_bipush (v := 15) hx hb dX5_instance_127 (by decide) ?_
                    refine lv_iand hx hb dX5_instance_129 ?_
                    refine lv_topi (fun z_21 ez_21 => ?_)
                    have hz_21 : 0 ≤ z_21.toInt ∧ z_21.toInt ≤ 15 := by rw [ez_21]; exact jb_and z_20 (m := 15) (k := 4) (by decide) (by decide)
                    have hbz_21 : z_21.toInt = z_20.toInt % 16 := by rw [ez_21, jb_and15]
                    refine lv_bipush (v := 10) hx hb dX5_instance_130 (by decide) ?_
                    refine lv_icmp_ne (tgt := 145) hx hb dX5_instance_132 (by decide) (fun c_22 => ?_) (fun c_22 => ?_)
                    · skip
                      have c_22' : z_21.toInt ≠ 10 := jb_ne (rfl) ((by decide)) c_22
                      refine lv_iconst (v := (-1)) hx hb dX5_instance_145 (by decide) ?_
                      refine lv_istore (lv' := [(9, .int (-1)), (0, .ref r0), (1, .ref r1), (2, .int a2), (3, .int a3), (4, .int a4), (5, .int v5_1), (6, .ref H_2.size), (7, .int v7_6), (8, .int v8_6)]) hx hb dX5_instance_146 hl (by decide) rfl (fun ls hl => ?_)
                      refine lv_iload hx hb dX5_instance_148 (lv_at hl 0 rfl) ?_
                      refine lv_if_lt (tgt := 200) hx hb dX5_instance_150 (by decide) (fun c_23 => ?_) (fun c_23 => ?_)
                      · skip
                        refine lv_aload hx hb dX5_instance_200 (lv_at hl 7 rfl) ?_
                        refine lv_iload hx hb dX5_instance_202 (lv_at hl 8 rfl) ?_
                        refine lv_iload hx hb dX5_instance_204 (lv_at hl 0 rfl) ?_
                        refine lv_if_ge (tgt := 216) hx hb dX5_instance_206 (by decide) (fun c_24 => ?_) (fun c_24 => ?_)
                        · skip
                          exact absurd c_24 (by decide)
                        · skip
                          refine lv_aload_n hx hb dX5_instance_209 rfl (lv_at hl 2 rfl) ?_
                          refine lv_iload hx hb dX5_instance_210 (lv_at hl 9 rfl) ?_
                          refine j7_ialdM hx hb hK hh_6 hB280 1 rfl (by decide) hg_r1 (x := v8_6.toInt) (rfl) (by omega) (j := 0) rfl dX5_instance_212 (fun z_25 ez_25 (hz_25 : -1 ≤ z_25.toInt) => ?_)
                          have hqz_25 : z_25.toInt = jSo ff (v8_6.toInt) := by unfold jSo; rw [ez_25]
                          refine lv_goto (tgt := 226) hx hb dX5_instance_213 (by decide) ?_
                          refine j7_iastR hx hb hK hh_6 hB hraw_6 hnr_4 hbr_4 1 rfl (x := v7_6.toInt) (rfl) (by omega) dX5_instance_226 (fun H_26 locs_26 hraw_26 hr_26 hh_26 => ?_)
                          have hkp_27 := hkp_6.st hsy_4 hr_26
                          clear hr_26
                          clear hh_6
                          obtain ⟨z_28, ez_28⟩ : ∃ y : Int32, y = v7_6 + 1 := ⟨_, rfl⟩
                          refine lv_iinc (v := z_28) (lv' := [(7, .int z_28), (9, .int (-1)), (0, .ref r0), (1, .ref r1), (2, .int a2), (3, .int a3), (4, .int a4), (5, .int v5_1), (6, .ref H_2.size), (8, .int v8_6)]) hx hb dX5_instance_227 hl (k := 8) rfl (by rw [ez_28]; rfl) (by decide) rfl (fun ls hl => ?_)
                          have hz_28 : z_28.toInt = v7_6.toInt + 1 := by rw [ez_28]; exact jb_iadd2 (rfl) (by decide) (by omega)
                          obtain ⟨z_29, ez_29⟩ : ∃ y : Int32, y = v8_6 + 1 := ⟨_, rfl⟩
                          refine lv_iinc (v := z_29) (lv' := [(8, .int z_29), (7, .int z_28), (9, .int (-1)), (0, .ref r0), (1, .ref r1), (2, .int a2), (3, .int a3), (4, .int a4), (5, .int v5_1), (6, .ref H_2.size)]) hx hb dX5_instance_230 hl (k := 9) rfl (by rw [ez_29]; rfl) (by decide) rfl (fun ls hl => ?_)
                          have hz_29 : z_29.toInt = v8_6.toInt + 1 := by rw [ez_29]; exact jb_iadd2 (rfl) (by decide) (by omega)
                          refine lv_goto (tgt := 103) hx hb dX5_instance_233 (by decide) ?_
                          refine W.tight (c2 := (0 + 1)) (n2 := (0 + nq_4)) hh_26.2.2.2.2.2.1 hh_26.2.2.2.2.2.2.1 ?_
                          exact L103 (upd fq_6 (v7_6.toInt).toNat z_25) z_28 z_29 _ _ hh_26 (hraw_26) (hkp_27) (by refine ⟨by omega, by omega, by omega, by omega, ?_, ?_⟩; (first | exact hi_6_4.toldq (zz_none) (by omega) (by omega) (by omega) (by omega) (by omega) | exact hi_6_4.one (by omega) (by omega) (by omega)); (first | exact hi_6_5.cpy (zz_none) | exact hi_6_5.put (by omega))) (by omega) _ (lv_sub hl [3, 4, 5, 6, 7, 8, 9, 1, 0] rfl)
                      · skip
                        exact absurd c_23 (by decide)
                    · skip
                      have c_22' : z_21.toInt = 10 := jb_ne_n (rfl) ((by decide)) c_22
                      refine lv_aload_n hx hb dX5_instance_135 rfl (lv_at hl 1 rfl) ?_
                      refine lv_iload hx hb dX5_instance_136 (lv_at hl 8 rfl) ?_
                      refine j7_ialdM hx hb hK hh_6 hB280 1 rfl (by decide) hg_r1 (x := v8_6.toInt) (rfl) (by omega) (j := 0) rfl dX5_instance_138 (fun z_30 ez_30 (hz_30 : -1 ≤ z_30.toInt) => ?_)
                      have hqz_30 : z_30.toInt = jSo ff (v8_6.toInt) := by unfold jSo; rw [ez_30]
                      refine lv_bipush (v := 15) hx hb dX5_instance_139 (by decide) ?_
                      refine lv_ishr hx hb dX5_instance_141 ?_
                      refine lv_topi (fun z_31 ez_31 => ?_)
                      have hz_31 : z_31.toInt = z_30.toInt / 2 ^ 15 := by rw [ez_31]; exact jb_ishr 15 (rfl) (by decide)
                      refine lv_goto (tgt := 146) hx hb dX5_instance_142 (by decide) ?_
                      refine lv_istore (lv' := [(9, .int z_31), (0, .ref r0), (1, .ref r1), (2, .int a2), (3, .int a3), (4, .int a4), (5, .int v5_1), (6, .ref H_2.size), (7, .int v7_6), (8, .int v8_6)]) hx hb dX5_instance_146 hl (by decide) rfl (fun ls hl => ?_)
                      refine lv_iload hx hb dX5_instance_148 (lv_at hl 0 rfl) ?_
                      refine lv_if_lt (tgt := 200) hx hb dX5_instance_150 (by decide) (fun c_32 => ?_) (fun c_32 => ?_)
                      · skip
                        have c_32' : z_31.toInt < 0 := jb_lt (rfl) ((by decide)) c_32
                        exact (by omega : False).elim
                      · skip
                        have c_32' : z_31.toInt ≥ 0 := jb_lt_n (rfl) ((by decide)) c_32
                        refine lv_iload hx hb dX5_instance_153 (lv_at hl 0 rfl) ?_
                        refine lv_iload hx hb dX5_instance_155 (lv_at hl 5 rfl) ?_
                        refine lv_icmp_ge (tgt := 200) hx hb dX5_instance_157 (by decide) (fun c_33 => ?_) (fun c_33 => ?_)
                        · skip
                          have c_33' : z_31.toInt ≥ a4.toInt := jb_ge (rfl) (rfl) c_33
                          refine lv_aload hx hb dX5_instance_200 (lv_at hl 7 rfl) ?_
                          refine lv_iload hx hb dX5_instance_202 (lv_at hl 8 rfl) ?_
                          refine lv_iload hx hb dX5_instance_204 (lv_at hl 0 rfl) ?_
                          refine lv_if_ge (tgt := 216) hx hb dX5_instance_206 (by decide) (fun c_34 => ?_) (fun c_34 => ?_)
                          · skip
                            have c_34' : z_31.toInt ≥ 0 := jb_ge (rfl) ((by decide)) c_34
                            refine lv_aload_n hx hb dX5_instance_216 rfl (lv_at hl 2 rfl) ?_
                            refine lv_iload hx hb dX5_instance_217 (lv_at hl 9 rfl) ?_
                            refine j7_ialdM hx hb hK hh_6 hB280 1 rfl (by decide) hg_r1 (x := v8_6.toInt) (rfl) (by omega) (j := 0) rfl dX5_instance_219 (fun z_35 ez_35 (hz_35 : -1 ≤ z_35.toInt) => ?_)
                            have hqz_35 : z_35.toInt = jSo ff (v8_6.toInt) := by unfold jSo; rw [ez_35]
                            have hrg9 := jb_rng z_35
                            refine lv_iload hx hb dX5_instance_220 (lv_at hl 5 rfl) ?_
                            refine lv_bipush (v := 15) hx hb dX5_instance_222 (by decide) ?_
                            refine lv_ishl hx hb dX5_instance_224 ?_
                            refine lv_topi (fun z_36 ez_36 => ?_)
                            have hbz_36 := jb_shlc 15 32768 ez_36 (by decide) (by decide) (by omega) (by omega)
                            refine lv_isub hx hb dX5_instance_225 ?_
                            refine lv_topi (fun z_37 ez_37 => ?_)
                            have hz_37 : z_37.toInt = z_35.toInt - z_36.toInt := by rw [ez_37]; exact jb_isub2 (rfl) (rfl) (by omega)
                            refine j7_iastR hx hb hK hh_6 hB hraw_6 hnr_4 hbr_4 1 rfl (x := v7_6.toInt) (rfl) (by omega) dX5_instance_226 (fun H_38 locs_38 hraw_38 hr_38 hh_38 => ?_)
                            have hkp_39 := hkp_6.st hsy_4 hr_38
                            clear hr_38
                            clear hh_6
                            obtain ⟨z_40, ez_40⟩ : ∃ y : Int32, y = v7_6 + 1 := ⟨_, rfl⟩
                            refine lv_iinc (v := z_40) (lv' := [(7, .int z_40), (9, .int z_31), (0, .ref r0), (1, .ref r1), (2, .int a2), (3, .int a3), (4, .int a4), (5, .int v5_1), (6, .ref H_2.size), (8, .int v8_6)]) hx hb dX5_instance_227 hl (k := 8) rfl (by rw [ez_40]; rfl) (by decide) rfl (fun ls hl => ?_)
                            have hz_40 : z_40.toInt = v7_6.toInt + 1 := by rw [ez_40]; exact jb_iadd2 (rfl) (by decide) (by omega)
                            obtain ⟨z_41, ez_41⟩ : ∃ y : Int32, y = v8_6 + 1 := ⟨_, rfl⟩
                            refine lv_iinc (v := z_41) (lv' := [(8, .int z_41), (7, .int z_40), (9, .int z_31), (0, .ref r0), (1, .ref r1), (2, .int a2), (3, .int a3), (4, .int a4), (5, .int v5_1), (6, .ref H_2.size)]) hx hb dX5_instance_230 hl (k := 9) rfl (by rw [ez_41]; rfl) (by decide) rfl (fun ls hl => ?_)
                            have hz_41 : z_41.toInt = v8_6.toInt + 1 := by rw [ez_41]; exact jb_iadd2 (rfl) (by decide) (by omega)
                            refine lv_goto (tgt := 103) hx hb dX5_instance_233 (by decide) ?_
                            refine W.tight (c2 := (0 + 1)) (n2 := (0 + nq_4)) hh_38.2.2.2.2.2.1 hh_38.2.2.2.2.2.2.1 ?_
                            exact L103 (upd fq_6 (v7_6.toInt).toNat z_37) z_40 z_41 _ _ hh_38 (hraw_38) (hkp_39) (by refine ⟨by omega, by omega, by omega, by omega, ?_, ?_⟩; (first | exact hi_6_4.toldq (zz_none) (by omega) (by omega) (by omega) (by omega) (by omega) | exact hi_6_4.one (by omega) (by omega) (by omega)); (first | exact hi_6_5.cpy (zz_none) | exact hi_6_5.put (by omega))) (by omega) _ (lv_sub hl [3, 4, 5, 6, 7, 8, 9, 1, 0] rfl)
                          · skip
                            have c_34' : z_31.toInt < 0 := jb_ge_n (rfl) ((by decide)) c_34
                            refine lv_aload_n hx hb dX5_instance_209 rfl (lv_at hl 2 rfl) ?_
                            refine lv_iload hx hb dX5_instance_210 (lv_at hl 9 rfl) ?_
                            refine j7_ialdM hx hb hK hh_6 hB280 1 rfl (by decide) hg_r1 (x := v8_6.toInt) (rfl) (by omega) (j := 0) rfl dX5_instance_212 (fun z_42 ez_42 (hz_42 : -1 ≤ z_42.toInt) => ?_)
                            have hqz_42 : z_42.toInt = jSo ff (v8_6.toInt) := by unfold jSo; rw [ez_42]
                            refine lv_goto (tgt := 226) hx hb dX5_instance_213 (by decide) ?_
                            refine j7_iastR hx hb hK hh_6 hB hraw_6 hnr_4 hbr_4 1 rfl (x := v7_6.toInt) (rfl) (by omega) dX5_instance_226 (fun H_43 locs_43 hraw_43 hr_43 hh_43 => ?_)
                            have hkp_44 := hkp_6.st hsy_4 hr_43
                            clear hr_43
                            clear hh_6
                            obtain ⟨z_45, ez_45⟩ : ∃ y : Int32, y = v7_6 + 1 := ⟨_, rfl⟩
                            refine lv_iinc (v := z_45) (lv' := [(7, .int z_45), (9, .int z_31), (0, .ref r0), (1, .ref r1), (2, .int a2), (3, .int a3), (4, .int a4), (5, .int v5_1), (6, .ref H_2.size), (8, .int v8_6)]) hx hb dX5_instance_227 hl (k := 8) rfl (by rw [ez_45]; rfl) (by decide) rfl (fun ls hl => ?_)
                            have hz_45 : z_45.toInt = v7_6.toInt + 1 := by rw [ez_45]; exact jb_iadd2 (rfl) (by decide) (by omega)
                            obtain ⟨z_46, ez_46⟩ : ∃ y : Int32, y = v8_6 + 1 := ⟨_, rfl⟩
                            refine lv_iinc (v := z_46) (lv' := [(8, .int z_46), (7, .int z_45), (9, .int z_31), (0, .ref r0), (1, .ref r1), (2, .int a2), (3, .int a3), (4, .int a4), (5, .int v5_1), (6, .ref H_2.size)]) hx hb dX5_instance_230 hl (k := 9) rfl (by rw [ez_46]; rfl) (by decide) rfl (fun ls hl => ?_)
                            have hz_46 : z_46.toInt = v8_6.toInt + 1 := by rw [ez_46]; exact jb_iadd2 (rfl) (by decide) (by omega)
                            refine lv_goto (tgt := 103) hx hb dX5_instance_233 (by decide) ?_
                            refine W.tight (c2 := (0 + 1)) (n2 := (0 + nq_4)) hh_43.2.2.2.2.2.1 hh_43.2.2.2.2.2.2.1 ?_
                            exact L103 (upd fq_6 (v7_6.toInt).toNat z_42) z_45 z_46 _ _ hh_43 (hraw_43) (hkp_44) (by refine ⟨by omega, by omega, by omega, by omega, ?_, ?_⟩; (first | exact hi_6_4.toldq (zz_none) (by omega) (by omega) (by omega) (by omega) (by omega) | exact hi_6_4.one (by omega) (by omega) (by omega)); (first | exact hi_6_5.cpy (zz_none) | exact hi_6_5.put (by omega))) (by omega) _ (lv_sub hl [3, 4, 5, 6, 7, 8, 9, 1, 0] rfl)
                        · skip
                          have c_33' : z_31.toInt < a4.toInt := jb_ge_n (rfl) (rfl) c_33
                          refine lv_aload_n hx hb dX5_instance_160 rfl (lv_at hl 1 rfl) ?_
                          refine j7_read hx hb hown hK (C := RX5) (T := TX5) (N := 11) rfl hly_7_5 hlk_41 (hh_6.at 0 rfl) dX5_instance_161 ?_
                          refine lv_aload_n hx hb dX5_instance_164 rfl (lv_at hl 1 rfl) ?_
                          refine j7_read hx hb hown hK (C := RX5) (T := TX5) (N := 11) rfl hly_7_6 hlk_44 (hh_6.at 1 rfl) dX5_instance_165 ?_
                          refine lv_iload hx hb dX5_instance_168 (lv_at hl 0 rfl) ?_
                          refine j7_ialdM hx hb hK hh_6 hB290 1 rfl (by decide) hg_xf (x := z_31.toInt) (rfl) (by omega) (j := 1) rfl dX5_instance_170 (fun z_47 ez_47 (hz_47 : 0 ≤ z_47.toInt ∧ z_47.toInt ≤ 3000) => ?_)
                          have hqz_47 : z_47.toInt = jSo fx (z_31.toInt) := by unfold jSo; rw [ez_47]
                          refine lv_aload hx hb dX5_instance_171 (lv_at hl 7 rfl) ?_
                          refine lv_iload hx hb dX5_instance_173 (lv_at hl 8 rfl) ?_
                          refine lv_aload_n hx hb dX5_instance_175 rfl (lv_at hl 1 rfl) ?_
                          refine j7_read hx hb hown hK (C := RX5) (T := TX5) (N := 11) rfl hly_7_7 hlk_47 (hh_6.at 2 rfl) dX5_instance_176 ?_
                          refine lv_iload hx hb dX5_instance_179 (lv_at hl 0 rfl) ?_
                          refine j7_ialdM hx hb hK hh_6 hB291 1 rfl (by decide) hg_xt (x := z_31.toInt) (rfl) (by omega) (j := 2) rfl dX5_instance_181 (fun z_48 ez_48 (hz_48 : 0 ≤ z_48.toInt ∧ z_48.toInt ≤ 3000) => ?_)
                          have hqz_48 : z_48.toInt = jSo ft (z_31.toInt) := by unfold jSo; rw [ez_48]
                          have htb := hp0 (z_31.toInt) (by omega) (by omega)
                          have hfit := hi_6_4.fitT (y := z_31.toInt) hi_1_4 (by omega) hff (by omega) (by omega) hft (by omega) (by omega) (by omega) (by omega)
                          refine j7_acopyR hx hb (by rw [hml]; exact hl.1.symm) hown (htw (.methodLink RX5 279 arraycopyName) (jWr_86 _ (List.mem_of_getElem? (i := 1) rfl))) (htw (.native arraycopyName) (jWr_16 _ (List.mem_of_getElem? (i := 19) rfl))) (htw (.static arraycopyName) (jWr_16 _ (List.mem_of_getElem? (i := 20) rfl))) (htw (.initialized "java/lang/System") (jWr_16 _ (List.mem_of_getElem? (i := 21) rfl))) hK hh_6 hB hB280 1 rfl (by decide) hg_so hraw_6 hnr_4 hbr_4 (x := z_47.toInt) (y := v7_6.toInt) (z := z_48.toInt) rfl rfl rfl (by omega) (by rw [← hR]; exact Nat.le_of_ble_eq_true rfl) (by rw [← hR]; exact Nat.le_of_ble_eq_true rfl) dX5_instance_182 (fun H_49 locs_49 g_49 hraw_49 hc_49 hr_49 hh_49 => ?_)
                          have hkp_50 := hkp_6.st hsy_4 hr_49
                          clear hr_49
                          clear hh_6
                          refine lv_iload hx hb dX5_instance_185 (lv_at hl 8 rfl) ?_
                          refine lv_aload_n hx hb dX5_instance_187 rfl (lv_at hl 1 rfl) ?_
                          refine j7_read hx hb hown hK (C := RX5) (T := TX5) (N := 11) rfl hly_7_7 hlk_47 (hh_49.at 2 rfl) dX5_instance_188 ?_
                          refine lv_iload hx hb dX5_instance_191 (lv_at hl 0 rfl) ?_
                          refine j7_ialdM hx hb hK hh_49 hB291 1 rfl (by decide) hg_xt (x := z_31.toInt) (rfl) (by omega) (j := 2) rfl dX5_instance_193 (fun z_51 ez_51 (hz_51 : 0 ≤ z_51.toInt ∧ z_51.toInt ≤ 3000) => ?_)
                          have hqz_51 : z_51.toInt = jSo ft (z_31.toInt) := by unfold jSo; rw [ez_51]
                          refine lv_iadd hx hb dX5_instance_194 ?_
                          refine lv_topi (fun z_52 ez_52 => ?_)
                          have hz_52 : z_52.toInt = v7_6.toInt + z_51.toInt := by rw [ez_52]; exact jb_iadd2 (rfl) (rfl) (by omega)
                          refine lv_istore (lv' := [(7, .int z_52), (9, .int z_31), (0, .ref r0), (1, .ref r1), (2, .int a2), (3, .int a3), (4, .int a4), (5, .int v5_1), (6, .ref H_2.size), (8, .int v8_6)]) hx hb dX5_instance_195 hl (by decide) rfl (fun ls hl => ?_)
                          refine lv_goto (tgt := 230) hx hb dX5_instance_197 (by decide) ?_
                          obtain ⟨z_53, ez_53⟩ : ∃ y : Int32, y = v8_6 + 1 := ⟨_, rfl⟩
                          refine lv_iinc (v := z_53) (lv' := [(8, .int z_53), (7, .int z_52), (9, .int z_31), (0, .ref r0), (1, .ref r1), (2, .int a2), (3, .int a3), (4, .int a4), (5, .int v5_1), (6, .ref H_2.size)]) hx hb dX5_instance_230 hl (k := 9) rfl (by rw [ez_53]; rfl) (by decide) rfl (fun ls hl => ?_)
                          have hz_53 : z_53.toInt = v8_6.toInt + 1 := by rw [ez_53]; exact jb_iadd2 (rfl) (by decide) (by omega)
                          refine lv_goto (tgt := 103) hx hb dX5_instance_233 (by decide) ?_
                          refine W.tight (c2 := (0 + 1)) (n2 := (0 + nq_4)) hh_49.2.2.2.2.2.1 hh_49.2.2.2.2.2.2.1 ?_
                          exact L103 g_49 z_52 z_53 _ _ hh_49 (hraw_49) (hkp_50) (by refine ⟨by omega, by omega, by omega, by omega, ?_, ?_⟩; (first | exact hi_6_4.toldq hqz_51 (by omega) (by omega) (by omega) (by omega) (by omega) | exact hi_6_4.one (by omega) (by omega) (by omega)); (first | exact hi_6_5.cpy hc_49 | exact hi_6_5.put (by omega))) (by omega) _ (lv_sub hl [3, 4, 5, 6, 7, 8, 9, 1, 0] rfl)
          refine W.tight (c2 := (0 + 1)) (n2 := (0 + nq_4)) hh_4.2.2.2.2.2.1 hh_4.2.2.2.2.2.2.1 ?_
          exact L103 (((n1 - (a2 : Int32).toInt).toNat : Int) : Int).toNat.succ (fun _ => 0) 0 a2 _ _ hh_4 (hraw_4) (hkp_5) (by refine ⟨by omega, by omega, by omega, by omega, jPqk.zero (by omega) (by omega), jFp.zero⟩) (by omega) _ (lv_sub hl [3, 4, 5, 6, 7, 8, 2, 1, 0] rfl)
        · skip
          have c_3' : v5_1.toInt > 80 := jb_le_n (rfl) ((by decide)) c_3
          refine lv_null hx hb dX5_instance_89 ?_
          have hsz_54 := hh_2.2.2.2.2.2.1
          have htt_54 := hh_2.2.2.2.2.2.2.1
          refine W.room (fun hrc_54 hrs_54 => ?_)
          refine W.widen (k := LC - s.heap.size) (n := LS - jTot s.heap) (by omega) (by omega) ?_
          rw [hQ]
          exact W.aret (v := .null) hx hb hr (Or.inr ⟨_, rfl⟩) (Or.inl rfl) (fun t ht hW => ⟨⟨.null, (0, G0), rfl, ⟨Or.inl rfl, by (try dsimp only); first | omega | rfl | assumption | fail⟩, ⟨hh_2.ra (by first | omega | (simp only; omega)) (by first | omega | (simp only; omega)) (M1 := []) [] rfl ht, jNk.rf, by rw [ht]; exact hkp_2⟩⟩, by rw [ht]; try exact hh_2.1.1, fun q h9 hq => by rw [ht]; try exact hh_2.1.2.1 q h9 hq⟩) hh_2.1.2.2 dX5_instance_90
      refine lv_icmp_ge (tgt := 82) hx hb dX5_instance_9 (by decide) (fun c_55 => ?_) (fun c_55 => ?_)
      · skip
        have c_55' : v6_1.toInt ≥ a3.toInt := jb_ge (rfl) (rfl) c_55
        refine W.tight (c2 := 0) (n2 := 0) hh_1.2.2.2.2.2.1 hh_1.2.2.2.2.2.2.1 ?_
        exact C82  _ _ hh_1 (hkp_1) (by first | omega | rfl | assumption | decide | exact Or.inl rfl | exact Or.inr rfl | (simp only; omega)) _ (lv_sub hl [0, 1, 2, 3, 4, 5, 6] rfl)
      · skip
        have c_55' : v6_1.toInt < a3.toInt := jb_ge_n (rfl) (rfl) c_55
        refine lv_iload hx hb dX5_instance_12 (lv_at hl 6 rfl) ?_
        refine lv_aload_n hx hb dX5_instance_14 rfl (lv_at hl 1 rfl) ?_
        refine j7_len hx hb hK hh_1 hB280 1 rfl (by decide) hg_r1 (by omega) dX5_instance_15 (fun z_56 hz_56 => ?_)
        refine lv_icmp_ge (tgt := 82) hx hb dX5_instance_16 (by decide) (fun c_57 => ?_) (fun c_57 => ?_)
        · skip
          have c_57' : v6_1.toInt ≥ z_56.toInt := jb_ge (rfl) (rfl) c_57
          refine W.tight (c2 := 0) (n2 := 0) hh_1.2.2.2.2.2.1 hh_1.2.2.2.2.2.2.1 ?_
          exact C82  _ _ hh_1 (hkp_1) (by first | omega | rfl | assumption | decide | exact Or.inl rfl | exact Or.inr rfl | (simp only; omega)) _ (lv_sub hl [0, 1, 2, 3, 4, 5, 6] rfl)
        · skip
          have c_57' : v6_1.toInt < z_56.toInt := jb_ge_n (rfl) (rfl) c_57
          refine lv_aload_n hx hb dX5_instance_19 rfl (lv_at hl 1 rfl) ?_
          refine lv_iload hx hb dX5_instance_20 (lv_at hl 6 rfl) ?_
          refine j7_ialdM hx hb hK hh_1 hB280 1 rfl (by decide) hg_r1 (x := v6_1.toInt) (rfl) (by omega) (j := 0) rfl dX5_instance_22 (fun z_58 ez_58 (hz_58 : -1 ≤ z_58.toInt) => ?_)
          have hqz_58 : z_58.toInt = jSo ff (v6_1.toInt) := by unfold jSo; rw [ez_58]
          refine lv_bipush (v := 15) hx hb dX5_instance_23 (by decide) ?_
          refine lv_iand hx hb dX5_instance_25 ?_
          refine lv_topi (fun z_59 ez_59 => ?_)
          have hz_59 : 0 ≤ z_59.toInt ∧ z_59.toInt ≤ 15 := by rw [ez_59]; exact jb_and z_58 (m := 15) (k := 4) (by decide) (by decide)
          have hbz_59 : z_59.toInt = z_58.toInt % 16 := by rw [ez_59, jb_and15]
          refine lv_bipush (v := 10) hx hb dX5_instance_26 (by decide) ?_
          refine lv_icmp_ne (tgt := 47) hx hb dX5_instance_28 (by decide) (fun c_60 => ?_) (fun c_60 => ?_)
          · skip
            have c_60' : z_59.toInt ≠ 10 := jb_ne (rfl) ((by decide)) c_60
            refine lv_iconst (v := 0) hx hb dX5_instance_47 (by decide) ?_
            refine lv_istore (lv' := [(7, .int 0), (0, .ref r0), (1, .ref r1), (2, .int a2), (3, .int a3), (4, .int a4), (5, .int v5_1), (6, .int v6_1)]) hx hb dX5_instance_48 hl (by decide) rfl (fun ls hl => ?_)
            refine lv_iload hx hb dX5_instance_50 (lv_at hl 6 rfl) ?_
            refine lv_iload hx hb dX5_instance_52 (lv_at hl 0 rfl) ?_
            refine lv_if_eq (tgt := 72) hx hb dX5_instance_54 (by decide) (fun c_61 => ?_) (fun c_61 => ?_)
            · skip
              refine lv_iconst (v := 1) hx hb dX5_instance_72 (by decide) ?_
              refine lv_iadd hx hb dX5_instance_73 ?_
              refine lv_topi (fun z_62 ez_62 => ?_)
              have hz_62 : z_62.toInt = v5_1.toInt + 1 := by rw [ez_62]; exact jb_iadd2 (rfl) ((by decide)) (by omega)
              refine lv_istore (lv' := [(5, .int z_62), (7, .int 0), (0, .ref r0), (1, .ref r1), (2, .int a2), (3, .int a3), (4, .int a4), (6, .int v6_1)]) hx hb dX5_instance_74 hl (by decide) rfl (fun ls hl => ?_)
              obtain ⟨z_63, ez_63⟩ : ∃ y : Int32, y = v6_1 + 1 := ⟨_, rfl⟩
              refine lv_iinc (v := z_63) (lv' := [(6, .int z_63), (5, .int z_62), (7, .int 0), (0, .ref r0), (1, .ref r1), (2, .int a2), (3, .int a3), (4, .int a4)]) hx hb dX5_instance_76 hl (k := 7) rfl (by rw [ez_63]; rfl) (by decide) rfl (fun ls hl => ?_)
              have hz_63 : z_63.toInt = v6_1.toInt + 1 := by rw [ez_63]; exact jb_iadd2 (rfl) (by decide) (by omega)
              refine lv_goto (tgt := 6) hx hb dX5_instance_79 (by decide) ?_
              refine W.tight (c2 := 0) (n2 := 0) hh_1.2.2.2.2.2.1 hh_1.2.2.2.2.2.2.1 ?_
              exact L6 z_62 z_63 _ _ hh_1 (hkp_1) (by refine ⟨by omega, by omega, by omega, by omega, ?_⟩; first | exact hi_1_4.toldq (zz_none) (by omega) (by omega) (by omega) (by omega) (by omega) | exact hi_1_4.one (by omega) (by omega) (by omega)) (by omega) _ (lv_sub hl [3, 4, 5, 6, 7, 1, 0] rfl)
            · skip
              exact absurd c_61 (by decide)
          · skip
            have c_60' : z_59.toInt = 10 := jb_ne_n (rfl) ((by decide)) c_60
            refine lv_aload_n hx hb dX5_instance_31 rfl (lv_at hl 1 rfl) ?_
            refine lv_iload hx hb dX5_instance_32 (lv_at hl 6 rfl) ?_
            refine j7_ialdM hx hb hK hh_1 hB280 1 rfl (by decide) hg_r1 (x := v6_1.toInt) (rfl) (by omega) (j := 0) rfl dX5_instance_34 (fun z_64 ez_64 (hz_64 : -1 ≤ z_64.toInt) => ?_)
            have hqz_64 : z_64.toInt = jSo ff (v6_1.toInt) := by unfold jSo; rw [ez_64]
            refine lv_bipush (v := 15) hx hb dX5_instance_35 (by decide) ?_
            refine lv_ishr hx hb dX5_instance_37 ?_
            refine lv_topi (fun z_65 ez_65 => ?_)
            have hz_65 : z_65.toInt = z_64.toInt / 2 ^ 15 := by rw [ez_65]; exact jb_ishr 15 (rfl) (by decide)
            refine lv_iload hx hb dX5_instance_38 (lv_at hl 4 rfl) ?_
            refine lv_icmp_ge (tgt := 47) hx hb dX5_instance_40 (by decide) (fun c_66 => ?_) (fun c_66 => ?_)
            · skip
              have c_66' : z_65.toInt ≥ a4.toInt := jb_ge (rfl) (rfl) c_66
              refine lv_iconst (v := 0) hx hb dX5_instance_47 (by decide) ?_
              refine lv_istore (lv' := [(7, .int 0), (0, .ref r0), (1, .ref r1), (2, .int a2), (3, .int a3), (4, .int a4), (5, .int v5_1), (6, .int v6_1)]) hx hb dX5_instance_48 hl (by decide) rfl (fun ls hl => ?_)
              refine lv_iload hx hb dX5_instance_50 (lv_at hl 6 rfl) ?_
              refine lv_iload hx hb dX5_instance_52 (lv_at hl 0 rfl) ?_
              refine lv_if_eq (tgt := 72) hx hb dX5_instance_54 (by decide) (fun c_67 => ?_) (fun c_67 => ?_)
              · skip
                refine lv_iconst (v := 1) hx hb dX5_instance_72 (by decide) ?_
                refine lv_iadd hx hb dX5_instance_73 ?_
                refine lv_topi (fun z_68 ez_68 => ?_)
                have hz_68 : z_68.toInt = v5_1.toInt + 1 := by rw [ez_68]; exact jb_iadd2 (rfl) ((by decide)) (by omega)
                refine lv_istore (lv' := [(5, .int z_68), (7, .int 0), (0, .ref r0), (1, .ref r1), (2, .int a2), (3, .int a3), (4, .int a4), (6, .int v6_1)]) hx hb dX5_instance_74 hl (by decide) rfl (fun ls hl => ?_)
                obtain ⟨z_69, ez_69⟩ : ∃ y : Int32, y = v6_1 + 1 := ⟨_, rfl⟩
                refine lv_iinc (v := z_69) (lv' := [(6, .int z_69), (5, .int z_68), (7, .int 0), (0, .ref r0), (1, .ref r1), (2, .int a2), (3, .int a3), (4, .int a4)]) hx hb dX5_instance_76 hl (k := 7) rfl (by rw [ez_69]; rfl) (by decide) rfl (fun ls hl => ?_)
                have hz_69 : z_69.toInt = v6_1.toInt + 1 := by rw [ez_69]; exact jb_iadd2 (rfl) (by decide) (by omega)
                refine lv_goto (tgt := 6) hx hb dX5_instance_79 (by decide) ?_
                refine W.tight (c2 := 0) (n2 := 0) hh_1.2.2.2.2.2.1 hh_1.2.2.2.2.2.2.1 ?_
                exact L6 z_68 z_69 _ _ hh_1 (hkp_1) (by refine ⟨by omega, by omega, by omega, by omega, ?_⟩; first | exact hi_1_4.toldq (zz_none) (by omega) (by omega) (by omega) (by omega) (by omega) | exact hi_1_4.one (by omega) (by omega) (by omega)) (by omega) _ (lv_sub hl [3, 4, 5, 6, 7, 1, 0] rfl)
              · skip
                exact absurd c_67 (by decide)
            · skip
              have c_66' : z_65.toInt < a4.toInt := jb_ge_n (rfl) (rfl) c_66
              refine lv_iconst (v := 1) hx hb dX5_instance_43 (by decide) ?_
              refine lv_goto (tgt := 48) hx hb dX5_instance_44 (by decide) ?_
              refine lv_istore (lv' := [(7, .int 1), (0, .ref r0), (1, .ref r1), (2, .int a2), (3, .int a3), (4, .int a4), (5, .int v5_1), (6, .int v6_1)]) hx hb dX5_instance_48 hl (by decide) rfl (fun ls hl => ?_)
              refine lv_iload hx hb dX5_instance_50 (lv_at hl 6 rfl) ?_
              refine lv_iload hx hb dX5_instance_52 (lv_at hl 0 rfl) ?_
              refine lv_if_eq (tgt := 72) hx hb dX5_instance_54 (by decide) (fun c_70 => ?_) (fun c_70 => ?_)
              · skip
                exact absurd c_70 (by decide)
              · skip
                refine lv_aload_n hx hb dX5_instance_57 rfl (lv_at hl 1 rfl) ?_
                refine j7_read hx hb hown hK (C := RX5) (T := TX5) (N := 11) rfl hly_7_7 hlk_47 (hh_1.at 2 rfl) dX5_instance_58 ?_
                refine lv_aload_n hx hb dX5_instance_61 rfl (lv_at hl 2 rfl) ?_
                refine lv_iload hx hb dX5_instance_62 (lv_at hl 7 rfl) ?_
                refine j7_ialdM hx hb hK hh_1 hB280 1 rfl (by decide) hg_r1 (x := v6_1.toInt) (rfl) (by omega) (j := 0) rfl dX5_instance_64 (fun z_71 ez_71 (hz_71 : -1 ≤ z_71.toInt) => ?_)
                have hqz_71 : z_71.toInt = jSo ff (v6_1.toInt) := by unfold jSo; rw [ez_71]
                refine lv_bipush (v := 15) hx hb dX5_instance_65 (by decide) ?_
                refine lv_ishr hx hb dX5_instance_67 ?_
                refine lv_topi (fun z_72 ez_72 => ?_)
                have hz_72 : z_72.toInt = z_71.toInt / 2 ^ 15 := by rw [ez_72]; exact jb_ishr 15 (rfl) (by decide)
                refine j7_ialdM hx hb hK hh_1 hB291 1 rfl (by decide) hg_xt (x := z_72.toInt) (rfl) (by omega) (j := 2) rfl dX5_instance_68 (fun z_73 ez_73 (hz_73 : 0 ≤ z_73.toInt ∧ z_73.toInt ≤ 3000) => ?_)
                have hqz_73 : z_73.toInt = jSo ft (z_72.toInt) := by unfold jSo; rw [ez_73]
                refine lv_goto (tgt := 73) hx hb dX5_instance_69 (by decide) ?_
                refine lv_iadd hx hb dX5_instance_73 ?_
                refine lv_topi (fun z_74 ez_74 => ?_)
                have hz_74 : z_74.toInt = v5_1.toInt + z_73.toInt := by rw [ez_74]; exact jb_iadd2 (rfl) (rfl) (by omega)
                refine lv_istore (lv' := [(5, .int z_74), (7, .int 1), (0, .ref r0), (1, .ref r1), (2, .int a2), (3, .int a3), (4, .int a4), (6, .int v6_1)]) hx hb dX5_instance_74 hl (by decide) rfl (fun ls hl => ?_)
                obtain ⟨z_75, ez_75⟩ : ∃ y : Int32, y = v6_1 + 1 := ⟨_, rfl⟩
                refine lv_iinc (v := z_75) (lv' := [(6, .int z_75), (5, .int z_74), (7, .int 1), (0, .ref r0), (1, .ref r1), (2, .int a2), (3, .int a3), (4, .int a4)]) hx hb dX5_instance_76 hl (k := 7) rfl (by rw [ez_75]; rfl) (by decide) rfl (fun ls hl => ?_)
                have hz_75 : z_75.toInt = v6_1.toInt + 1 := by rw [ez_75]; exact jb_iadd2 (rfl) (by decide) (by omega)
                refine lv_goto (tgt := 6) hx hb dX5_instance_79 (by decide) ?_
                refine W.tight (c2 := 0) (n2 := 0) hh_1.2.2.2.2.2.1 hh_1.2.2.2.2.2.2.1 ?_
                exact L6 z_74 z_75 _ _ hh_1 (hkp_1) (by refine ⟨by omega, by omega, by omega, by omega, ?_⟩; first | exact hi_1_4.toldq hqz_73 (by omega) (by omega) (by omega) (by omega) (by omega) | exact hi_1_4.one (by omega) (by omega) (by omega)) (by omega) _ (lv_sub hl [3, 4, 5, 6, 7, 1, 0] rfl)
  refine W.tight (c2 := 0) (n2 := 0) hh.2.2.2.2.2.1 hh.2.2.2.2.2.2.1 ?_
  exact L6 (((n1 - (a2 : Int32).toInt).toNat : Int) : Int).toNat.succ 0 a2 _ _ hh (hkp) (by refine ⟨by omega, by omega, by omega, by omega, jPqk.zero (by omega) (by omega)⟩) (by omega) _ (lv_sub hl [2, 3, 4, 5, 6, 1, 0] rfl)
set_option maxHeartbeats 4000000 in
set_option maxRecDepth 20000 in
theorem uX5_opened (l : Launch) (dC : Nat → ClassId) (dI : Nat → Nat → Nat) (ca : Nat → ClassId) (base : Nat) (B : jF) (hB : jBok B) (hAp : jAp (dC, dI)) (hB7 : ∀ n G a H, B 7 n G a H ↔ jOb (dC, dI) 7 11 (F7 n G) a H) (hB280 : ∀ n G a H, B 280 n G a H ↔ jAr (dC, dI) (ca 1) (fun j z => -1 ≤ z.toInt) n a H) (hB290 : ∀ n G a H, B 290 n G a H ↔ jAr (dC, dI) (ca 1) (fun j z => 0 ≤ z.toInt ∧ z.toInt ≤ 3000) n a H) (hB291 : ∀ n G a H, B 291 n G a H ↔ jAr (dC, dI) (ca 1) (fun j z => 0 ≤ z.toInt ∧ z.toInt ≤ 3000) n a H) (G0 : jT) (H0 : Heap) (r0 : Nat) (r1 : Nat) (r2 : Nat) (a3 : Int32) (n1 : Nat) (n2 : Nat) (xf : Nat) (xt : Nat) (fx : Nat → Int32) (ft : Nat → Int32) (LC LS : Nat) : Met l yX5_opened (jw yX5_opened cX5_opened 4 (some (.array .int))) ({ frames := 2, cells := LC - H0.size, slots := LS - jTot H0, locals := 90 }) (va_Pc [.ref r0, .ref r1, .ref r2, .int a3] (fun U => U.heap = H0 ∧ jX B base G0 [] H0 ∧ jG dC dI ca base U ∧ G0 r1 = some (280, n1) ∧ G0 r2 = some (280, n2) ∧ G0 r0 = some (7, 0) ∧ G0 xf = some (290, 13) ∧ G0 xt = some (291, 13) ∧ jP (dC, dI) G0 H0 [(r0, 7, 6, .ref xf), (r0, 7, 7, .ref xt)] ∧ jMc (dC, dI) G0 H0 [(xf, 290, 13, ca 1, fx), (xt, 291, 13, ca 1, ft)] ∧ H0.size + 1 ≤ LC ∧ jTot H0 + 80 ≤ LS ∧ n1 ≤ 80 ∧ n2 ≤ 3000 ∧ 0 ≤ a3.toInt)) (jQx (S := Nat × jT) (fun v u => (v = .null ∨ (jRf u.2 280 u.1 v ∧ jNwv v H0)) ∧ u.1 ≤ 80) (fun u t => jRa (dC, dI) B base G0 u.2 EX5_opened H0 (1) (80) [] t.heap ∧ (jNk [0, 1, 2, 3, 4, 5, 6, 7, 8, 9, 10, 11, 12, 13, 14, 15, 16]) G0 u.2) (jA base)) (LC - H0.size) (LS - jTot H0) (jA base) := by
  refine Met.ofW (cc := cX5_opened) (maxL := 4) (ret := (some (.array .int))) (by decide) rfl ?_
  intro p e s m args below meth c s₁ Bd hml hv
  obtain ⟨rfl, hH0, hX, hG, hg_r1, hg_r2, hg_r0, hg_xf, hg_xt, hP0, hM0, hLC0, hLS0, hp0, hp1, hp2⟩ := hv
  have hK := hG.1
  have hx := Bd.exec
  have hb := Bd.bytes
  have hr := Bd.returns
  have hts := atoms_spec (ws := (jw yX5_opened cX5_opened 4 (some (.array .int)))) Bd.pre
  have htw : ∀ w ∈ jWl, w.before _ s = true := fun w h => hts w (List.mem_cons_of_mem _ h)
  have hown : s.vm.findClass RX5 = some m.cls := findClass_of_methodNamed Bd.named
  have hlocks := Bd.notSynchronized
  obtain ⟨Q, hQ⟩ : ∃ Q, Q = MQ below (jQx (S := Nat × jT) (fun v u => (v = .null ∨ (jRf u.2 280 u.1 v ∧ jNwv v H0)) ∧ u.1 ≤ 80) (fun u t => jRa (dC, dI) B base G0 u.2 EX5_opened H0 (1) (80) [] t.heap ∧ (jNk [0, 1, 2, 3, 4, 5, 6, 7, 8, 9, 10, 11, 12, 13, 14, 15, 16]) G0 u.2) (jA base)) ([.ref r0, .ref r1, .ref r2, .int a3] : List Value).toArray s (LC - H0.size) (LS - jTot H0) (jA base) := ⟨_, rfl⟩
  rw [← hQ]
  have hl := lv_entry ([.ref r0, .ref r1, .ref r2, .int a3]) (n := 4) (Nat.le_of_ble_eq_true rfl)
  rw [lg_entry_eq]
  generalize (lg_sl ([.ref r0, .ref r1, .ref r2, .int a3]) ++ List.replicate (4 - (lg_sl ([.ref r0, .ref r1, .ref r2, .int a3])).length) Slot.unset).toArray = ls at hl ⊢
  have hl : lv_has ls 4 [(0, .ref r0), (1, .ref r1), (2, .ref r2), (3, .int a3)] := hl
  generalize hR : (headSpec (jw yX5_opened cX5_opened 4 (some (.array .int))) ({ frames := 2, cells := LC - H0.size, slots := LS - jTot H0, locals := 90 })).room = R
  subst hH0
  have hh : jSt (dC, dI) B base G0 G0 EX5_opened s.heap 0 0 [(r0, 7, 6, .ref xf), (r0, 7, 7, .ref xt)] [(xf, 290, 13, ca 1, fx), (xt, 291, 13, ca 1, ft)] [] s.heap [] := jSt.start hX hP0 hM0 jIs.nil
  clear hX hP0
  have hk0 : (0 : Int32).toInt = 0 := by decide
  have hk1 : (1 : Int32).toInt = 1 := by decide
  have hly_7_5 := htw (u_lay RX5 TX5 5) (jWc_wsX50 _ (u_in_lay (by decide)))
  have hly_7_6 := htw (u_lay RX5 TX5 6) (jWc_wsX50 _ (u_in_lay (by decide)))
  have hly_7_7 := htw (u_lay RX5 TX5 7) (jWc_wsX50 _ (u_in_lay (by decide)))
  have hlk_41 := (htw (.fieldLink RX5 41 "ProofServer$Kernel" "source" "[I") (jWr_4 _ (List.mem_of_getElem? (i := 22) rfl)))
  have hlk_44 := (htw (.fieldLink RX5 44 "ProofServer$Kernel" "termFrom" "[I") (jWr_4 _ (List.mem_of_getElem? (i := 23) rfl)))
  have hlk_47 := (htw (.fieldLink RX5 47 "ProofServer$Kernel" "termSize" "[I") (jWr_5 _ (List.mem_of_getElem? (i := 0) rfl)))
  have hrg_a3 := jb_rng a3
  have hbs : base ≤ s.heap.size := Nat.le_of_lt (Nat.lt_of_le_of_lt (hh.ab hg_r0).1 (hh.ab hg_r0).2)
  have hRc : R.cells = LC - s.heap.size := by rw [← hR]; rfl
  have hRs : R.slots = LS - jTot s.heap := by rw [← hR]; rfl
  refine lv_aload_n hx hb dX5_opened_0 rfl (lv_at hl 0 rfl) ?_
  refine lv_aload_n hx hb dX5_opened_1 rfl (lv_at hl 2 rfl) ?_
  refine j7_put hx hb hown hK hh hB hAp hB7 (C := RX5) (T := TX5) (N := 11) rfl (by decide) hg_r0 (i := 5) (by decide) hly_7_5 rfl hlk_41 rfl (ty := (.array .int)) (v := .ref r2) (by decide +kernel) rfl rfl (⟨_, _, rfl, hg_r2, by omega⟩) rfl (L1 := [(r0, 7, 6, .ref xf), (r0, 7, 7, .ref xt)]) [0, 1] rfl rfl rfl dX5_opened_2 (fun H_1 locs_1 hh_1 => ?_)
  clear hh
  refine lv_aload_n hx hb dX5_opened_5 rfl (lv_at hl 0 rfl) ?_
  refine j7_read hx hb hown hK (C := RX5) (T := TX5) (N := 11) rfl hly_7_6 hlk_44 (hh_1.at 1 rfl) dX5_opened_6 ?_
  refine lv_iconst (v := 0) hx hb dX5_opened_9 (by decide) ?_
  refine lv_iconst (v := 0) hx hb dX5_opened_10 (by decide) ?_
  refine j7_iastU hx hb hK hh_1 hB hB290 1 rfl (by decide) (by decide) rfl 0 rfl (M1 := [(xt, 291, 13, ca 1, ft)]) [1] rfl rfl rfl hg_xf (x := 0) ((by decide)) (by omega) (by first | omega | (refine ⟨?_, ?_⟩ <;> (first | omega | rfl | assumption | decide | exact Or.inl rfl | exact Or.inr rfl | (simp only; omega)))) dX5_opened_11 (fun H_2 locs_2 fs_3 hv_2 ho_2 hh_2 => ?_)
  have hv_2 : jSo fs_3 (0) = 0 := by unfold jSo; rw [hv_2]; try exact (by decide)
  clear hh_1
  refine lv_aload_n hx hb dX5_opened_12 rfl (lv_at hl 0 rfl) ?_
  refine j7_read hx hb hown hK (C := RX5) (T := TX5) (N := 11) rfl hly_7_7 hlk_47 (hh_2.at 2 rfl) dX5_opened_13 ?_
  refine lv_iconst (v := 0) hx hb dX5_opened_16 (by decide) ?_
  refine lv_iload_n hx hb dX5_opened_17 rfl (lv_at hl 3 rfl) ?_
  refine lv_aload_n hx hb dX5_opened_18 rfl (lv_at hl 2 rfl) ?_
  refine j7_len hx hb hK hh_2 hB280 1 rfl (by decide) hg_r2 (by omega) dX5_opened_19 (fun z_4 hz_4 => ?_)
  have hsz_5 := hh_2.2.2.2.2.2.1
  have htt_5 := hh_2.2.2.2.2.2.2.1
  refine W.room (fun hrc_5 hrs_5 => ?_)
  refine va_mmin hx hb (by rw [hml]; exact hl.1.symm) hown (htw (.methodLink RX5 303 Lib.Math.min.name) (jWr_85 _ (List.mem_of_getElem? (i := 20) rfl))) (htw (.static Lib.Math.min.name) (jWr_16 _ (List.mem_of_getElem? (i := 16) rfl))) (htw (.initialized "java/lang/Math") (jWr_3 _ (List.mem_of_getElem? (i := 7) rfl))) (htw (.code Lib.Math.min.name Lib.Math.min.code 2 (some .int)) (jWr_16 _ (List.mem_of_getElem? (i := 17) rfl))) (by rw [← hR]; exact Nat.le_of_ble_eq_true rfl) (by rw [← hR]; exact Nat.le_of_ble_eq_true rfl) (by rw [hRc]; omega) (by rw [hRs]; omega) dX5_opened_20 ?_
  refine lv_topi (fun z_6 ez_6 => ?_)
  have hz_6 := jb_min ez_6
  refine j7_iastU hx hb hK hh_2 hB hB291 1 rfl (by decide) (by decide) rfl 1 rfl (M1 := [(xf, 290, 13, ca 1, fs_3)]) [0] rfl rfl rfl hg_xt (x := 0) ((by decide)) (by omega) (by first | omega | (refine ⟨?_, ?_⟩ <;> (first | omega | rfl | assumption | decide | exact Or.inl rfl | exact Or.inr rfl | (simp only; omega)))) dX5_opened_23 (fun H_7 locs_7 fs_8 hv_7 ho_7 hh_7 => ?_)
  have hv_7 : jSo fs_8 (0) = z_6.toInt := by unfold jSo; rw [hv_7]; try exact rfl
  clear hh_2
  refine lv_aload_n hx hb dX5_opened_24 rfl (lv_at hl 0 rfl) ?_
  refine lv_aload_n hx hb dX5_opened_25 rfl (lv_at hl 1 rfl) ?_
  refine lv_iconst (v := 1) hx hb dX5_opened_26 (by decide) ?_
  refine lv_aload_n hx hb dX5_opened_27 rfl (lv_at hl 1 rfl) ?_
  refine j7_len hx hb hK hh_7 hB280 1 rfl (by decide) hg_r1 (by omega) dX5_opened_28 (fun z_9 hz_9 => ?_)
  refine lv_iconst (v := 1) hx hb dX5_opened_29 (by decide) ?_
  obtain ⟨f_ff_12, hh_12⟩ := hh_7.cpin hB280 (by decide) (by decide) hg_r1
  clear hh_7
  have hsz_10 := hh_12.2.2.2.2.2.1
  have htt_10 := hh_12.2.2.2.2.2.2.1
  refine W.room (fun hrc_10 hrs_10 => ?_)
  refine j_callx (A0 := jA base) (H0 := s.heap) (va_runV (As := [.ref r1, .int 1, .int z_9, .int 1]) (rest := []) ⟨hx, hb, hml, hown, hts⟩ (uX5_instance l dC dI ca base B hB hAp hB7 hB280 hB290 hB291 G0 H_7 r0 r1 1 z_9 1 n1 r2 n2 xf xt f_ff_12 fs_3 fs_8 LC LS) (cwV 4 hts (jgV (jWr_85 _ (List.mem_of_getElem? (i := 21) rfl)) (jWr_85 _ (List.mem_of_getElem? (i := 22) rfl)) (jWr_85 _ (List.mem_of_getElem? (i := 23) rfl)) (jWr_2 _ (List.mem_of_getElem? (i := 4) rfl)) (jWr_86 _ (List.mem_of_getElem? (i := 0) rfl))) rfl rfl rfl (by decide +kernel) ⟨by rw [← hR]; exact Nat.le_of_ble_eq_true rfl, by rw [← hR]; exact Nat.le_of_ble_eq_true rfl⟩) ⟨fun a U g mk q => by obtain ⟨q0, q1, q2, qK, q10, q11, q12, q13, q14, q15, q16, q17⟩ := q; exact ⟨q0, q1, q2, jG.calling g mk a qK, q10, q11, q12, q13, q14, q15, q16, q17⟩, hh_12.recv (C := RX5) (T := TX5) (N := 11) hB7 rfl (by decide) hg_r0 hK, fun U hU hW => ⟨rfl, hU, hh_12.2.1, hG.step hW hU hh_12.1, hg_r1, hg_r0, hg_r2, hg_xf, hg_xt, (hh_12.2.2.1.sub (L1 := [(r0, 7, 5, .ref r2), (r0, 7, 6, .ref xf), (r0, 7, 7, .ref xt)]) [0, 1, 2] rfl), (hh_12.2.2.2.2.2.2.2.1.sub (L1 := [(r1, 280, n1, ca 1, f_ff_12), (xf, 290, 13, ca 1, fs_3), (xt, 291, 13, ca 1, fs_8)]) [0, 2, 1] rfl), (by omega), (by omega), ⟨(by first | assumption | exact jTbk.one hv_2 hv_7 (by omega) | omega), (by first | omega | rfl | assumption | exact jTbk.one hv_2 hv_7 (by omega)), (by first | omega | rfl | assumption | exact jTbk.one hv_2 hv_7 (by omega)), (by first | omega | rfl | assumption | exact jTbk.one hv_2 hv_7 (by omega)), (by first | omega | rfl | assumption | exact jTbk.one hv_2 hv_7 (by omega)), (by first | omega | rfl | assumption | exact jTbk.one hv_2 hv_7 (by omega))⟩⟩⟩ rfl rfl hl.1 rfl (lv_room (Nat.le_of_ble_eq_true rfl)) dX5_opened_30 ⟨by rw [hRc]; omega, by rw [hRs]; omega⟩) hh_12.1 (fun q _ h => h) (fun q h => h) (fun r_11 u_10 t_10 H_10 locs_10 ht_10 hvm_10 hr_11 hb_10 hz_10 hk_10 hS_10 => ?_)
  rw [ht_10] at hb_10
  obtain ⟨m_ret_10, G_10⟩ := u_10
  simp only at hb_10
  obtain ⟨⟨hb_101, hb_102, hb_103, hb_104, hb_105, hb_106⟩, hN_10, hbK_10⟩ := hb_10
  have hh_10 : jSt (dC, dI) B base G0 G_10 EX5_opened s.heap (0 + (1)) (0 + (80)) [(r0, 7, 5, .ref r2), (r0, 7, 6, .ref xf), (r0, 7, 7, .ref xt)] [(r1, 280, n1, ca 1, f_ff_12), (xt, 291, 13, ca 1, fs_8), (xf, 290, 13, ca 1, fs_3)] [] H_10 locs_10 := (hh_12.callG hb_101 hb_102 hb_103 hb_104 hb_105 hS_10 rfl (L1 := [(r0, 7, 5, .ref r2), (r0, 7, 6, .ref xf), (r0, 7, 7, .ref xt)]) [0, 1, 2] rfl rfl (M1 := [(r1, 280, n1, ca 1, f_ff_12), (xt, 291, 13, ca 1, fs_8), (xf, 290, 13, ca 1, fs_3)]) [0, 1, 2] rfl rfl (I1 := []) [] rfl rfl).more hb_106
  have hNn_10 : (jNk [0, 1, 2, 3, 4, 5, 6, 7, 8, 9, 10, 11, 12, 13, 14, 15, 16]) G0 G_10 := (jNk.rf).tr hN_10
  have hg_13 := hb_102 _ _ hg_r0
  have hg_14 := hb_102 _ _ hg_r1
  have hg_15 := hb_102 _ _ hg_r2
  have hg_16 := hb_102 _ _ hg_xf
  have hg_17 := hb_102 _ _ hg_xt
  obtain ⟨hr_11, hr_11p⟩ := hr_11
  try simp only at hr_11p
  rcases hr_11 with rfl | ⟨hr_11, hr_11n⟩
  · skip
    have hsz_18 := hh_10.2.2.2.2.2.1
    have htt_18 := hh_10.2.2.2.2.2.2.1
    refine W.room (fun hrc_18 hrs_18 => ?_)
    refine W.widen (k := LC - s.heap.size) (n := LS - jTot s.heap) (by omega) (by omega) ?_
    rw [hQ]
    exact W.aret (v := .null) hx hb hr (Or.inr ⟨_, rfl⟩) (Or.inl rfl) (fun t ht hW => ⟨⟨.null, (0, G_10), rfl, ⟨Or.inl rfl, by (try dsimp only); first | omega | rfl | assumption | fail⟩, ⟨hh_10.ra (by first | omega | (simp only; omega)) (by first | omega | (simp only; omega)) (M1 := []) [] rfl ht, hNn_10⟩⟩, by rw [ht]; try exact hh_10.1.1, fun q h9 hq => by rw [ht]; try exact hh_10.1.2.1 q h9 hq⟩) hh_10.1.2.2 dX5_opened_33
  · skip
    obtain ⟨ret_19, rfl, hg_ret_19⟩ := hr_11
    have hsy_10 : s.heap.size ≤ ret_19 := Nat.le_trans hh_12.1.1 hr_11n.le
    have hsz_20 := hh_10.2.2.2.2.2.1
    have htt_20 := hh_10.2.2.2.2.2.2.1
    refine W.room (fun hrc_20 hrs_20 => ?_)
    refine W.widen (k := LC - s.heap.size) (n := LS - jTot s.heap) (by omega) (by omega) ?_
    rw [hQ]
    exact W.aret (v := .ref ret_19) hx hb hr (Or.inr ⟨_, rfl⟩) (Or.inr ⟨_, rfl⟩) (fun t ht hW => ⟨⟨.ref ret_19, (m_ret_10, G_10), rfl, ⟨Or.inr ⟨⟨_, rfl, hg_ret_19⟩, ⟨_, rfl, hsy_10⟩⟩, by (try dsimp only); first | omega | rfl | assumption | fail⟩, ⟨hh_10.ra (by first | omega | (simp only; omega)) (by first | omega | (simp only; omega)) (M1 := []) [] rfl ht, hNn_10⟩⟩, by rw [ht]; try exact hh_10.1.1, fun q h9 hq => by rw [ht]; try exact hh_10.1.2.1 q h9 hq⟩) hh_10.1.2.2 dX5_opened_33
