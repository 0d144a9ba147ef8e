section
theorem dX13_stands_0 : decode cX13_stands 0 = .ok (.aload_n 0, 1) := by decide +kernel
theorem dX13_stands_1 : decode cX13_stands 1 = .ok (.getfield 12, 3) := by decide +kernel
theorem dX13_stands_4 : decode cX13_stands 4 = .ok (.iload_n 1, 1) := by decide +kernel
theorem dX13_stands_5 : decode cX13_stands 5 = .ok (.iaload, 1) := by decide +kernel
theorem dX13_stands_6 : decode cX13_stands 6 = .ok (.istore 5, 2) := by decide +kernel
theorem dX13_stands_8 : decode cX13_stands 8 = .ok (.iload 5, 2) := by decide +kernel
theorem dX13_stands_10 : decode cX13_stands 10 = .ok (.bipush 7, 2) := by decide +kernel
theorem dX13_stands_12 : decode cX13_stands 12 = .ok (.if_icmp .eq 10, 3) := by decide +kernel
theorem dX13_stands_15 : decode cX13_stands 15 = .ok (.iload 5, 2) := by decide +kernel
theorem dX13_stands_17 : decode cX13_stands 17 = .ok (.bipush 8, 2) := by decide +kernel
theorem dX13_stands_19 : decode cX13_stands 19 = .ok (.if_icmp .ne 27, 3) := by decide +kernel
theorem dX13_stands_22 : decode cX13_stands 22 = .ok (.aload_n 0, 1) := by decide +kernel
theorem dX13_stands_23 : decode cX13_stands 23 = .ok (.iload_n 3, 1) := by decide +kernel
theorem dX13_stands_24 : decode cX13_stands 24 = .ok (.iload 4, 2) := by decide +kernel
theorem dX13_stands_26 : decode cX13_stands 26 = .ok (.aload_n 0, 1) := by decide +kernel
theorem dX13_stands_27 : decode cX13_stands 27 = .ok (.getfield 37, 3) := by decide +kernel
theorem dX13_stands_30 : decode cX13_stands 30 = .ok (.aload_n 0, 1) := by decide +kernel
theorem dX13_stands_31 : decode cX13_stands 31 = .ok (.getfield 16, 3) := by decide +kernel
theorem dX13_stands_34 : decode cX13_stands 34 = .ok (.iload_n 1, 1) := by decide +kernel
theorem dX13_stands_35 : decode cX13_stands 35 = .ok (.iaload, 1) := by decide +kernel
theorem dX13_stands_36 : decode cX13_stands 36 = .ok (.iaload, 1) := by decide +kernel
theorem dX13_stands_37 : decode cX13_stands 37 = .ok (.iconst 0, 1) := by decide +kernel
theorem dX13_stands_38 : decode cX13_stands 38 = .ok (.invokevirtual 384, 3) := by decide +kernel
theorem dX13_stands_41 : decode cX13_stands 41 = .ok (.ifCond .eq 5, 3) := by decide +kernel
theorem dX13_stands_44 : decode cX13_stands 44 = .ok (.iconst 1, 1) := by decide +kernel
theorem dX13_stands_45 : decode cX13_stands 45 = .ok (.ireturn, 1) := by decide +kernel
theorem dX13_stands_46 : decode cX13_stands 46 = .ok (.iload 5, 2) := by decide +kernel
theorem dX13_stands_48 : decode cX13_stands 48 = .ok (.bipush 9, 2) := by decide +kernel
theorem dX13_stands_50 : decode cX13_stands 50 = .ok (.if_icmp .ne 22, 3) := by decide +kernel
theorem dX13_stands_53 : decode cX13_stands 53 = .ok (.aload_n 0, 1) := by decide +kernel
theorem dX13_stands_54 : decode cX13_stands 54 = .ok (.iload_n 3, 1) := by decide +kernel
theorem dX13_stands_55 : decode cX13_stands 55 = .ok (.iload 4, 2) := by decide +kernel
theorem dX13_stands_57 : decode cX13_stands 57 = .ok (.aload_n 0, 1) := by decide +kernel
theorem dX13_stands_58 : decode cX13_stands 58 = .ok (.getfield 16, 3) := by decide +kernel
theorem dX13_stands_61 : decode cX13_stands 61 = .ok (.iload_n 1, 1) := by decide +kernel
theorem dX13_stands_62 : decode cX13_stands 62 = .ok (.iaload, 1) := by decide +kernel
theorem dX13_stands_63 : decode cX13_stands 63 = .ok (.iconst 0, 1) := by decide +kernel
theorem dX13_stands_64 : decode cX13_stands 64 = .ok (.invokevirtual 384, 3) := by decide +kernel
theorem dX13_stands_67 : decode cX13_stands 67 = .ok (.ifCond .eq 5, 3) := by decide +kernel
theorem dX13_stands_70 : decode cX13_stands 70 = .ok (.iconst 1, 1) := by decide +kernel
theorem dX13_stands_71 : decode cX13_stands 71 = .ok (.ireturn, 1) := by decide +kernel
theorem dX13_stands_72 : decode cX13_stands 72 = .ok (.iload 5, 2) := by decide +kernel
theorem dX13_stands_74 : decode cX13_stands 74 = .ok (.bipush 10, 2) := by decide +kernel
theorem dX13_stands_76 : decode cX13_stands 76 = .ok (.if_icmp .ne 54, 3) := by decide +kernel
theorem dX13_stands_79 : decode cX13_stands 79 = .ok (.aload_n 0, 1) := by decide +kernel
theorem dX13_stands_80 : decode cX13_stands 80 = .ok (.getfield 16, 3) := by decide +kernel
theorem dX13_stands_83 : decode cX13_stands 83 = .ok (.iload_n 1, 1) := by decide +kernel
theorem dX13_stands_84 : decode cX13_stands 84 = .ok (.iaload, 1) := by decide +kernel
theorem dX13_stands_85 : decode cX13_stands 85 = .ok (.iload_n 2, 1) := by decide +kernel
theorem dX13_stands_86 : decode cX13_stands 86 = .ok (.if_icmp .le 44, 3) := by decide +kernel
theorem dX13_stands_89 : decode cX13_stands 89 = .ok (.aload_n 0, 1) := by decide +kernel
theorem dX13_stands_90 : decode cX13_stands 90 = .ok (.getfield 388, 3) := by decide +kernel
theorem dX13_stands_93 : decode cX13_stands 93 = .ok (.aload_n 0, 1) := by decide +kernel
theorem dX13_stands_94 : decode cX13_stands 94 = .ok (.getfield 16, 3) := by decide +kernel
theorem dX13_stands_97 : decode cX13_stands 97 = .ok (.iload_n 1, 1) := by decide +kernel
theorem dX13_stands_98 : decode cX13_stands 98 = .ok (.iaload, 1) := by decide +kernel
theorem dX13_stands_99 : decode cX13_stands 99 = .ok (.iload_n 2, 1) := by decide +kernel
theorem dX13_stands_100 : decode cX13_stands 100 = .ok (.isub, 1) := by decide +kernel
theorem dX13_stands_101 : decode cX13_stands 101 = .ok (.isub, 1) := by decide +kernel
theorem dX13_stands_102 : decode cX13_stands 102 = .ok (.istore 6, 2) := by decide +kernel
theorem dX13_stands_104 : decode cX13_stands 104 = .ok (.aload_n 0, 1) := by decide +kernel
theorem dX13_stands_105 : decode cX13_stands 105 = .ok (.iload_n 3, 1) := by decide +kernel
theorem dX13_stands_106 : decode cX13_stands 106 = .ok (.iload 4, 2) := by decide +kernel
theorem dX13_stands_108 : decode cX13_stands 108 = .ok (.aload_n 0, 1) := by decide +kernel
theorem dX13_stands_109 : decode cX13_stands 109 = .ok (.getfield 93, 3) := by decide +kernel
theorem dX13_stands_112 : decode cX13_stands 112 = .ok (.iload 6, 2) := by decide +kernel
theorem dX13_stands_114 : decode cX13_stands 114 = .ok (.iaload, 1) := by decide +kernel
theorem dX13_stands_115 : decode cX13_stands 115 = .ok (.aload_n 0, 1) := by decide +kernel
theorem dX13_stands_116 : decode cX13_stands 116 = .ok (.getfield 96, 3) := by decide +kernel
theorem dX13_stands_119 : decode cX13_stands 119 = .ok (.iload 6, 2) := by decide +kernel
theorem dX13_stands_121 : decode cX13_stands 121 = .ok (.iaload, 1) := by decide +kernel
theorem dX13_stands_122 : decode cX13_stands 122 = .ok (.invokevirtual 384, 3) := by decide +kernel
theorem dX13_stands_125 : decode cX13_stands 125 = .ok (.ifCond .eq 5, 3) := by decide +kernel
theorem dX13_stands_128 : decode cX13_stands 128 = .ok (.iconst 1, 1) := by decide +kernel
theorem dX13_stands_129 : decode cX13_stands 129 = .ok (.ireturn, 1) := by decide +kernel
theorem dX13_stands_130 : decode cX13_stands 130 = .ok (.iload 5, 2) := by decide +kernel
theorem dX13_stands_132 : decode cX13_stands 132 = .ok (.iconst 4, 1) := by decide +kernel
theorem dX13_stands_133 : decode cX13_stands 133 = .ok (.if_icmp .eq 9, 3) := by decide +kernel
theorem dX13_stands_136 : decode cX13_stands 136 = .ok (.iload 5, 2) := by decide +kernel
theorem dX13_stands_138 : decode cX13_stands 138 = .ok (.iconst 5, 1) := by decide +kernel
theorem dX13_stands_139 : decode cX13_stands 139 = .ok (.if_icmp .ne 9, 3) := by decide +kernel
theorem dX13_stands_142 : decode cX13_stands 142 = .ok (.iload_n 2, 1) := by decide +kernel
theorem dX13_stands_143 : decode cX13_stands 143 = .ok (.iconst 1, 1) := by decide +kernel
theorem dX13_stands_144 : decode cX13_stands 144 = .ok (.iadd, 1) := by decide +kernel
theorem dX13_stands_145 : decode cX13_stands 145 = .ok (.goto 4, 3) := by decide +kernel
theorem dX13_stands_148 : decode cX13_stands 148 = .ok (.iload_n 2, 1) := by decide +kernel
theorem dX13_stands_149 : decode cX13_stands 149 = .ok (.istore 6, 2) := by decide +kernel
theorem dX13_stands_151 : decode cX13_stands 151 = .ok (.iconst 0, 1) := by decide +kernel
theorem dX13_stands_152 : decode cX13_stands 152 = .ok (.istore 7, 2) := by decide +kernel
theorem dX13_stands_154 : decode cX13_stands 154 = .ok (.iload 7, 2) := by decide +kernel
theorem dX13_stands_156 : decode cX13_stands 156 = .ok (.aload_n 0, 1) := by decide +kernel
theorem dX13_stands_157 : decode cX13_stands 157 = .ok (.iload_n 1, 1) := by decide +kernel
theorem dX13_stands_158 : decode cX13_stands 158 = .ok (.invokevirtual 252, 3) := by decide +kernel
theorem dX13_stands_161 : decode cX13_stands 161 = .ok (.if_icmp .ge 30, 3) := by decide +kernel
theorem dX13_stands_164 : decode cX13_stands 164 = .ok (.aload_n 0, 1) := by decide +kernel
theorem dX13_stands_165 : decode cX13_stands 165 = .ok (.aload_n 0, 1) := by decide +kernel
theorem dX13_stands_166 : decode cX13_stands 166 = .ok (.iload_n 1, 1) := by decide +kernel
theorem dX13_stands_167 : decode cX13_stands 167 = .ok (.iload 7, 2) := by decide +kernel
theorem dX13_stands_169 : decode cX13_stands 169 = .ok (.invokevirtual 255, 3) := by decide +kernel
theorem dX13_stands_172 : decode cX13_stands 172 = .ok (.iload 6, 2) := by decide +kernel
theorem dX13_stands_174 : decode cX13_stands 174 = .ok (.iload_n 3, 1) := by decide +kernel
theorem dX13_stands_175 : decode cX13_stands 175 = .ok (.iload 4, 2) := by decide +kernel
theorem dX13_stands_177 : decode cX13_stands 177 = .ok (.invokevirtual 391, 3) := by decide +kernel
theorem dX13_stands_180 : decode cX13_stands 180 = .ok (.ifCond .eq 5, 3) := by decide +kernel
theorem dX13_stands_183 : decode cX13_stands 183 = .ok (.iconst 1, 1) := by decide +kernel
theorem dX13_stands_184 : decode cX13_stands 184 = .ok (.ireturn, 1) := by decide +kernel
theorem dX13_stands_185 : decode cX13_stands 185 = .ok (.iinc 7 1, 3) := by decide +kernel
theorem dX13_stands_188 : decode cX13_stands 188 = .ok (.goto (-34), 3) := by decide +kernel
theorem dX13_stands_191 : decode cX13_stands 191 = .ok (.iconst 0, 1) := by decide +kernel
theorem dX13_stands_192 : decode cX13_stands 192 = .ok (.ireturn, 1) := by decide +kernel
def EX13_areAlikeK : List (Nat × Nat) := []
def EX13_stands : List (Nat × Nat) := []
def qX13_stands (l : Launch) (dC : Nat → ClassId) (dI : Nat → Nat → Nat) (ca : Nat → ClassId) (base : Nat) (B : jF) (d : Nat) : Prop := ∀ (G0 : jT) (H0 : Heap) (r0 : Nat) (a1 : Int32) (a2 : Int32) (a3 : Int32) (a4 : Int32) (pv : Int32) (zm : Nat) (zs : Nat) (zn : Nat) (za : Nat) (zb : Nat) (zc : Nat) (zy : Nat) (M : Int) (fm : Nat → Int32) (C : jK), Met l yX13_stands (jw yX13_stands cX13_stands 8 (some .boolean)) ({ frames := d + 6, cells := 0, slots := 0, locals := 60 * d + 300 }) (va_Pc [.ref r0, .int a1, .int a2, .int a3, .int a4] (fun U => U.heap = H0 ∧ jX B base G0 [] H0 ∧ jG dC dI ca base U ∧ G0 r0 = some (15, 0) ∧ G0 zm = some (164, 100) ∧ G0 zs = some (150, 120000) ∧ G0 zn = some (151, 120000) ∧ G0 za = some (152, 120000) ∧ G0 zb = some (153, 120000) ∧ G0 zc = some (154, 120000) ∧ G0 zy = some (165, 16) ∧ jP (dC, dI) G0 H0 [(r0, 15, 49, .int pv), (r0, 15, 48, .ref zm), (r0, 15, 0, .ref zs), (r0, 15, 1, .ref zn), (r0, 15, 2, .ref za), (r0, 15, 3, .ref zb), (r0, 15, 4, .ref zc), (r0, 15, 14, .ref zy)] ∧ jMc (dC, dI) G0 H0 [(zm, 164, 100, ca 1, fm), (zs, 150, 120000, ca 1, C.s), (zn, 151, 120000, ca 1, C.n), (za, 152, 120000, ca 1, C.a), (zb, 153, 120000, ca 1, C.b), (zc, 154, 120000, ca 1, C.c), (zy, 165, 16, ca 1, C.y)] ∧ jFm C 120000 16 d (pv.toInt + 1 + a2.toInt) a1.toInt ∧ jMx fm pv.toInt M ∧ 0 ≤ a2.toInt ∧ a2.toInt + d ≤ 2000 ∧ 0 ≤ pv.toInt ∧ pv.toInt ≤ 99 ∧ 0 ≤ a3.toInt ∧ a3.toInt ≤ 1599 ∧ 0 ≤ a4.toInt ∧ a4.toInt ≤ 100000 ∧ 0 ≤ M ∧ M ≤ 100000)) (va_Qi (S := Unit) (fun r u => (r = 0 ∨ r = 1) ∧ (a4.toInt ≤ 10 + M + 300000 * (1 - r.toInt))) (fun u t => jRt (dC, dI) B base G0 EX13_stands H0 [] t.heap) (jA base)) 0 0 (jA base)
set_option maxHeartbeats 4000000 in
set_option maxRecDepth 20000 in
theorem uX13_areAlikeK (l : Launch) (dC : Nat → ClassId) (dI : Nat → Nat → Nat) (ca : Nat → ClassId) (base : Nat) (B : jF) (hB : jBok B) (hAp : jAp (dC, dI)) (hB15 : ∀ n G a H, B 15 n G a H ↔ jOb (dC, dI) 15 50 (F15 n G) a H) (hB155 : ∀ n G a H, B 155 n G a H ↔ jAr (dC, dI) (ca 1) (fun j z => 0 ≤ z.toInt ∧ z.toInt ≤ 11990) n a H) (hB156 : ∀ n G a H, B 156 n G a H ↔ jAr (dC, dI) (ca 1) (fun j z => 0 ≤ z.toInt ∧ z.toInt ≤ 10) n a H) (hB166 : ∀ n G a H, B 166 n G a H ↔ jAr (dC, dI) (ca 1) (fun j z => True) n a H) (G0 : jT) (H0 : Heap) (r0 : Nat) (a1 : Int32) (a2 : Int32) (a3 : Int32) (a4 : Int32) : Met l yX13_areAlike (jw yX13_areAlike cX13_areAlike 9 (some .boolean)) ({ frames := 0, cells := 0, slots := 0, locals := 0 }) (va_Pc [.ref r0, .int a1, .int a2, .int a3, .int a4] (fun U => U.heap = H0 ∧ jX B base G0 [] H0 ∧ jG dC dI ca base U ∧ G0 r0 = some (15, 0) ∧ jP (dC, dI) G0 H0 [] ∧ 0 ≤ a1.toInt ∧ a1.toInt ≤ 1599 ∧ 0 ≤ a3.toInt ∧ a3.toInt ≤ 1599 ∧ 0 ≤ a2.toInt ∧ a2.toInt ≤ 200000 ∧ 0 ≤ a4.toInt ∧ a4.toInt ≤ 200000)) (va_Qi (S := Unit) (fun r u => (r = 0 ∨ r = 1) ∧ (a2.toInt ≤ 10 + a4.toInt + 300000 * (1 - r.toInt))) (fun u t => jRt (dC, dI) B base G0 EX13_areAlikeK H0 [] t.heap) (jA base)) 0 0 (jA base) := by
  refine Met.ofW (cc := cX13_areAlike) (maxL := 9) (ret := (some .boolean)) (by decide) rfl ?_
  intro p e s m args below meth c s₁ Bd hml hv
  obtain ⟨rfl, hH0, hX, hG, hg_r0, hP0, hp0, hp1, hp2, hp3, hp4, hp5, hp6, hp7⟩ := hv
  have hK := hG.1
  have hx := Bd.exec
  have hb := Bd.bytes
  have hr := Bd.returns
  have hts := atoms_spec (ws := (jw yX13_areAlike cX13_areAlike 9 (some .boolean))) Bd.pre
  have htw : ∀ w ∈ jWl, w.before _ s = true := fun w h => hts w (List.mem_cons_of_mem _ h)
  have hown : s.vm.findClass RX13 = some m.cls := findClass_of_methodNamed Bd.named
  have hlocks := Bd.notSynchronized
  obtain ⟨Q, hQ⟩ : ∃ Q, Q = MQ below (va_Qi (S := Unit) (fun r u => (r = 0 ∨ r = 1) ∧ (a2.toInt ≤ 10 + a4.toInt + 300000 * (1 - r.toInt))) (fun u t => jRt (dC, dI) B base G0 EX13_areAlikeK H0 [] t.heap) (jA base)) ([.ref r0, .int a1, .int a2, .int a3, .int a4] : List Value).toArray s 0 0 (jA base) := ⟨_, rfl⟩
  rw [← hQ]
  have hl := lv_entry ([.ref r0, .int a1, .int a2, .int a3, .int a4]) (n := 9) (Nat.le_of_ble_eq_true rfl)
  rw [lg_entry_eq]
  generalize (lg_sl ([.ref r0, .int a1, .int a2, .int a3, .int a4]) ++ List.replicate (9 - (lg_sl ([.ref r0, .int a1, .int a2, .int a3, .int a4])).length) Slot.unset).toArray = ls at hl ⊢
  have hl : lv_has ls 9 [(0, .ref r0), (1, .int a1), (2, .int a2), (3, .int a3), (4, .int a4)] := hl
  generalize hR : (headSpec (jw yX13_areAlike cX13_areAlike 9 (some .boolean)) ({ frames := 0, cells := 0, slots := 0, locals := 0 })).room = R
  subst hH0
  have hh : jSt (dC, dI) B base G0 G0 EX13_areAlikeK s.heap 0 0 [] [] [] s.heap [] := jSt.start hX hP0 jMc.nil jIs.nil
  clear hX hP0
  have hk0 : (0 : Int32).toInt = 0 := by decide
  have hk1 : (1 : Int32).toInt = 1 := by decide
  have hk39 : (39 : Int32).toInt = 39 := by decide
  have hly_15_6 := htw (u_lay RX13 TX13 6) (jWc_wsX130 _ (u_in_lay (by decide)))
  have hly_15_8 := htw (u_lay RX13 TX13 8) (jWc_wsX130 _ (u_in_lay (by decide)))
  have hly_15_9 := htw (u_lay RX13 TX13 9) (jWc_wsX130 _ (u_in_lay (by decide)))
  have hlk_34 := (htw (.fieldLink RX13 34 "ProofServerModel$Kernel" "nameLength" "[I") (jWr_14 _ (List.mem_of_getElem? (i := 16) rfl)))
  have hlk_28 := (htw (.fieldLink RX13 28 "ProofServerModel$Kernel" "signs" "[I") (jWr_14 _ (List.mem_of_getElem? (i := 14) rfl)))
  have hlk_31 := (htw (.fieldLink RX13 31 "ProofServerModel$Kernel" "nameAt" "[I") (jWr_14 _ (List.mem_of_getElem? (i := 15) rfl)))
  have hrg_a1 := jb_rng a1
  have hrg_a2 := jb_rng a2
  have hrg_a3 := jb_rng a3
  have hrg_a4 := jb_rng a4
  refine lv_aload_n hx hb dX13_areAlike_0 rfl (lv_at hl 0 rfl) ?_
  obtain ⟨v_1, hv_1, hh_2⟩ := hh.pin (C := RX13) (T := TX13) (N := 50) hB15 rfl (by decide) hg_r0 (i := 9) (by decide) rfl
  clear hh
  obtain ⟨nameLength_3, rfl, hg_nameLength_3⟩ := hv_1
  refine j7_read hx hb hown hK (C := RX13) (T := TX13) (N := 50) rfl hly_15_9 hlk_34 (hh_2.at 0 rfl) dX13_areAlike_1 ?_
  refine lv_iload_n hx hb dX13_areAlike_4 rfl (lv_at hl 1 rfl) ?_
  refine j7_iald hx hb hK hh_2 hB156 1 rfl (by decide) hg_nameLength_3 (x := a1.toInt) (rfl) (by omega) dX13_areAlike_5 (fun z_4 (hz_4 : 0 ≤ z_4.toInt ∧ z_4.toInt ≤ 10) => ?_)
  refine lv_iload_n hx hb dX13_areAlike_6 rfl (lv_at hl 2 rfl) ?_
  refine lv_iadd hx hb dX13_areAlike_7 ?_
  refine lv_topi (fun z_5 ez_5 => ?_)
  have hz_5 : z_5.toInt = z_4.toInt + a2.toInt := by rw [ez_5]; exact jb_iadd2 (rfl) (rfl) (by omega)
  refine lv_istore (lv' := [(5, .int z_5), (0, .ref r0), (1, .int a1), (2, .int a2), (3, .int a3), (4, .int a4)]) hx hb dX13_areAlike_8 hl (by decide) rfl (fun ls hl => ?_)
  refine lv_iload hx hb dX13_areAlike_10 (lv_at hl 0 rfl) ?_
  refine lv_aload_n hx hb dX13_areAlike_12 rfl (lv_at hl 1 rfl) ?_
  refine j7_read hx hb hown hK (C := RX13) (T := TX13) (N := 50) rfl hly_15_9 hlk_34 (hh_2.at 0 rfl) dX13_areAlike_13 ?_
  refine lv_iload_n hx hb dX13_areAlike_16 rfl (lv_at hl 4 rfl) ?_
  refine j7_iald hx hb hK hh_2 hB156 1 rfl (by decide) hg_nameLength_3 (x := a3.toInt) (rfl) (by omega) dX13_areAlike_17 (fun z_6 (hz_6 : 0 ≤ z_6.toInt ∧ z_6.toInt ≤ 10) => ?_)
  refine lv_iload hx hb dX13_areAlike_18 (lv_at hl 5 rfl) ?_
  refine lv_iadd hx hb dX13_areAlike_20 ?_
  refine lv_topi (fun z_7 ez_7 => ?_)
  have hz_7 : z_7.toInt = z_6.toInt + a4.toInt := by rw [ez_7]; exact jb_iadd2 (rfl) (rfl) (by omega)
  refine lv_icmp_eq (tgt := 26) hx hb dX13_areAlike_21 (by decide) (fun c_8 => ?_) (fun c_8 => ?_)
  · skip
    have c_8' : z_5.toInt = z_7.toInt := jb_eq (rfl) (rfl) c_8
    refine lv_iconst (v := 0) hx hb dX13_areAlike_26 (by decide) ?_
    refine lv_istore (lv' := [(6, .int 0), (5, .int z_5), (0, .ref r0), (1, .int a1), (2, .int a2), (3, .int a3), (4, .int a4)]) hx hb dX13_areAlike_27 hl (by decide) rfl (fun ls hl => ?_)
    have L29 : ∀ (N : Nat) (v6_9 : Int32) (H_9 : Heap) (locs_9 : List Loc), jSt (dC, dI) B base G0 G0 EX13_areAlikeK s.heap 0 0 [(r0, 15, 9, .ref nameLength_3)] [] [] H_9 locs_9 → (0 ≤ v6_9.toInt) → (((z_5.toInt - v6_9.toInt).toNat : Int) : Int) < N → ∀ ls : Array Slot, lv_has ls 9 [(0, .ref r0), (1, .int a1), (2, .int a2), (3, .int a3), (4, .int a4), (5, .int z_5), (6, .int v6_9)] → W p l e R s m ([.ref r0, .int a1, .int a2, .int a3, .int a4] : List Value).toArray below meth c H_9 locs_9 0 0 Q (F0 m 29 ls []) := by
      intro N
      induction N with
      | zero => intro v6_9 H_9 locs_9 hh_9  hi_9 hm; exact absurd hm (by omega)
      | succ N L29 =>
        intro v6_9 H_9 locs_9 hh_9  hi_9 hm_9 ls hl
        refine lv_iload hx hb dX13_areAlike_29 (lv_at hl 6 rfl) ?_
        refine lv_iload hx hb dX13_areAlike_31 (lv_at hl 5 rfl) ?_
        refine lv_icmp_ge (tgt := 115) hx hb dX13_areAlike_33 (by decide) (fun c_10 => ?_) (fun c_10 => ?_)
        · skip
          have c_10' : v6_9.toInt ≥ z_5.toInt := jb_ge (rfl) (rfl) c_10
          refine lv_iconst (v := 1) hx hb dX13_areAlike_115 (by decide) ?_
          rw [hQ]
          exact W.zret (v := 1) hx hb hr (jb_nz (Or.inr rfl)) (fun t ht hW => ⟨⟨1, (), rfl, ⟨(Or.inr rfl), by first | omega | rfl | assumption | decide | exact Or.inl rfl | exact Or.inr rfl | (simp only; omega)⟩, hh_9.rt (M1 := []) [] rfl ht⟩, by rw [ht]; try exact hh_9.1.1, fun q h9 hq => by rw [ht]; try exact hh_9.1.2.1 q h9 hq⟩) hh_9.1.2.2 dX13_areAlike_116
        · skip
          have c_10' : v6_9.toInt < z_5.toInt := jb_ge_n (rfl) (rfl) c_10
          refine lv_iload hx hb dX13_areAlike_36 (lv_at hl 6 rfl) ?_
          refine lv_aload_n hx hb dX13_areAlike_38 rfl (lv_at hl 0 rfl) ?_
          refine j7_read hx hb hown hK (C := RX13) (T := TX13) (N := 50) rfl hly_15_9 hlk_34 (hh_9.at 0 rfl) dX13_areAlike_39 ?_
          refine lv_iload_n hx hb dX13_areAlike_42 rfl (lv_at hl 1 rfl) ?_
          refine j7_iald hx hb hK hh_9 hB156 1 rfl (by decide) hg_nameLength_3 (x := a1.toInt) (rfl) (by omega) dX13_areAlike_43 (fun z_11 (hz_11 : 0 ≤ z_11.toInt ∧ z_11.toInt ≤ 10) => ?_)
          have C66 : ∀ (w0_12 : Int32) (H_12 : Heap) (locs_12 : List Loc), jSt (dC, dI) B base G0 G0 EX13_areAlikeK s.heap 0 0 [(r0, 15, 9, .ref nameLength_3)] [] [] H_12 locs_12 → (True) → ∀ ls : Array Slot, lv_has ls 9 [(0, .ref r0), (1, .int a1), (2, .int a2), (3, .int a3), (4, .int a4), (5, .int z_5), (6, .int v6_9)] → W p l e R s m ([.ref r0, .int a1, .int a2, .int a3, .int a4] : List Value).toArray below meth c H_12 locs_12 0 0 Q (F0 m 66 ls [.int w0_12]) := by
            intro w0_12 H_12 locs_12 hh_12  hi_12 ls hl
            refine lv_istore (lv' := [(7, .int w0_12), (0, .ref r0), (1, .int a1), (2, .int a2), (3, .int a3), (4, .int a4), (5, .int z_5), (6, .int v6_9)]) hx hb dX13_areAlike_66 hl (by decide) rfl (fun ls hl => ?_)
            refine lv_iload hx hb dX13_areAlike_68 (lv_at hl 7 rfl) ?_
            refine lv_aload_n hx hb dX13_areAlike_70 rfl (lv_at hl 1 rfl) ?_
            refine j7_read hx hb hown hK (C := RX13) (T := TX13) (N := 50) rfl hly_15_9 hlk_34 (hh_12.at 0 rfl) dX13_areAlike_71 ?_
            refine lv_iload_n hx hb dX13_areAlike_74 rfl (lv_at hl 4 rfl) ?_
            refine j7_iald hx hb hK hh_12 hB156 1 rfl (by decide) hg_nameLength_3 (x := a3.toInt) (rfl) (by omega) dX13_areAlike_75 (fun z_13 (hz_13 : 0 ≤ z_13.toInt ∧ z_13.toInt ≤ 10) => ?_)
            refine lv_icmp_ge (tgt := 96) hx hb dX13_areAlike_76 (by decide) (fun c_14 => ?_) (fun c_14 => ?_)
            · skip
              have c_14' : v6_9.toInt ≥ z_13.toInt := jb_ge (rfl) (rfl) c_14
              refine lv_bipush (v := 39) hx hb dX13_areAlike_96 (by decide) ?_
              refine lv_istore (lv' := [(8, .int 39), (7, .int w0_12), (0, .ref r0), (1, .int a1), (2, .int a2), (3, .int a3), (4, .int a4), (5, .int z_5), (6, .int v6_9)]) hx hb dX13_areAlike_98 hl (by decide) rfl (fun ls hl => ?_)
              refine lv_iload hx hb dX13_areAlike_100 (lv_at hl 1 rfl) ?_
              refine lv_iload hx hb dX13_areAlike_102 (lv_at hl 0 rfl) ?_
              refine lv_icmp_eq (tgt := 109) hx hb dX13_areAlike_104 (by decide) (fun c_15 => ?_) (fun c_15 => ?_)
              · skip
                have c_15' : w0_12.toInt = 39 := jb_eq (rfl) ((by decide)) c_15
                obtain ⟨z_16, ez_16⟩ : ∃ y : Int32, y = v6_9 + 1 := ⟨_, rfl⟩
                refine lv_iinc (v := z_16) (lv' := [(6, .int z_16), (8, .int 39), (7, .int w0_12), (0, .ref r0), (1, .int a1), (2, .int a2), (3, .int a3), (4, .int a4), (5, .int z_5)]) hx hb dX13_areAlike_109 hl (k := 8) rfl (by rw [ez_16]; rfl) (by decide) rfl (fun ls hl => ?_)
                have hz_16 : z_16.toInt = v6_9.toInt + 1 := by rw [ez_16]; exact jb_iadd2 (rfl) (by decide) (by omega)
                refine lv_goto (tgt := 29) hx hb dX13_areAlike_112 (by decide) ?_
                exact L29 z_16 _ _ hh_12 (by first | omega | rfl | assumption | decide | exact Or.inl rfl | exact Or.inr rfl | (simp only; omega)) (by omega) _ (lv_sub hl [3, 4, 5, 6, 7, 8, 0] rfl)
              · skip
                have c_15' : w0_12.toInt ≠ 39 := jb_eq_n (rfl) ((by decide)) c_15
                refine lv_iconst (v := 0) hx hb dX13_areAlike_107 (by decide) ?_
                rw [hQ]
                exact W.zret (v := 0) hx hb hr (jb_nz (Or.inl rfl)) (fun t ht hW => ⟨⟨0, (), rfl, ⟨(Or.inl rfl), by first | omega | rfl | assumption | decide | exact Or.inl rfl | exact Or.inr rfl | (simp only; omega)⟩, hh_12.rt (M1 := []) [] rfl ht⟩, by rw [ht]; try exact hh_12.1.1, fun q h9 hq => by rw [ht]; try exact hh_12.1.2.1 q h9 hq⟩) hh_12.1.2.2 dX13_areAlike_108
            · skip
              have c_14' : v6_9.toInt < z_13.toInt := jb_ge_n (rfl) (rfl) c_14
              refine lv_aload_n hx hb dX13_areAlike_79 rfl (lv_at hl 1 rfl) ?_
              obtain ⟨v_17, hv_17, hh_18⟩ := hh_12.pin (C := RX13) (T := TX13) (N := 50) hB15 rfl (by decide) hg_r0 (i := 6) (by decide) rfl
              clear hh_12
              obtain ⟨signs_19, rfl, hg_signs_19⟩ := hv_17
              refine j7_read hx hb hown hK (C := RX13) (T := TX13) (N := 50) rfl hly_15_6 hlk_28 (hh_18.at 0 rfl) dX13_areAlike_80 ?_
              refine lv_aload_n hx hb dX13_areAlike_83 rfl (lv_at hl 1 rfl) ?_
              obtain ⟨v_20, hv_20, hh_21⟩ := hh_18.pin (C := RX13) (T := TX13) (N := 50) hB15 rfl (by decide) hg_r0 (i := 8) (by decide) rfl
              clear hh_18
              obtain ⟨nameAt_22, rfl, hg_nameAt_22⟩ := hv_20
              refine j7_read hx hb hown hK (C := RX13) (T := TX13) (N := 50) rfl hly_15_8 hlk_31 (hh_21.at 0 rfl) dX13_areAlike_84 ?_
              refine lv_iload_n hx hb dX13_areAlike_87 rfl (lv_at hl 4 rfl) ?_
              refine j7_iald hx hb hK hh_21 hB155 1 rfl (by decide) hg_nameAt_22 (x := a3.toInt) (rfl) (by omega) dX13_areAlike_88 (fun z_23 (hz_23 : 0 ≤ z_23.toInt ∧ z_23.toInt ≤ 11990) => ?_)
              refine lv_iload hx hb dX13_areAlike_89 (lv_at hl 7 rfl) ?_
              refine lv_iadd hx hb dX13_areAlike_91 ?_
              refine lv_topi (fun z_24 ez_24 => ?_)
              have hz_24 : z_24.toInt = z_23.toInt + v6_9.toInt := by rw [ez_24]; exact jb_iadd2 (rfl) (rfl) (by omega)
              refine j7_iald hx hb hK hh_21 hB166 1 rfl (by decide) hg_signs_19 (x := z_24.toInt) (rfl) (by omega) dX13_areAlike_92 (fun z_25 (hz_25 : True) => ?_)
              refine lv_goto (tgt := 98) hx hb dX13_areAlike_93 (by decide) ?_
              refine lv_istore (lv' := [(8, .int z_25), (7, .int w0_12), (0, .ref r0), (1, .int a1), (2, .int a2), (3, .int a3), (4, .int a4), (5, .int z_5), (6, .int v6_9)]) hx hb dX13_areAlike_98 hl (by decide) rfl (fun ls hl => ?_)
              refine lv_iload hx hb dX13_areAlike_100 (lv_at hl 1 rfl) ?_
              refine lv_iload hx hb dX13_areAlike_102 (lv_at hl 0 rfl) ?_
              refine lv_icmp_eq (tgt := 109) hx hb dX13_areAlike_104 (by decide) (fun c_26 => ?_) (fun c_26 => ?_)
              · skip
                have c_26' : w0_12.toInt = z_25.toInt := jb_eq (rfl) (rfl) c_26
                obtain ⟨z_27, ez_27⟩ : ∃ y : Int32, y = v6_9 + 1 := ⟨_, rfl⟩
                refine lv_iinc (v := z_27) (lv' := [(6, .int z_27), (8, .int z_25), (7, .int w0_12), (0, .ref r0), (1, .int a1), (2, .int a2), (3, .int a3), (4, .int a4), (5, .int z_5)]) hx hb dX13_areAlike_109 hl (k := 8) rfl (by rw [ez_27]; rfl) (by decide) rfl (fun ls hl => ?_)
                have hz_27 : z_27.toInt = v6_9.toInt + 1 := by rw [ez_27]; exact jb_iadd2 (rfl) (by decide) (by omega)
                refine lv_goto (tgt := 29) hx hb dX13_areAlike_112 (by decide) ?_
                exact L29 z_27 _ _ (hh_21.sub (L1 := [(r0, 15, 9, .ref nameLength_3)]) [2] rfl (M1 := []) [] rfl (I1 := []) [] rfl) (by first | omega | rfl | assumption | decide | exact Or.inl rfl | exact Or.inr rfl | (simp only; omega)) (by omega) _ (lv_sub hl [3, 4, 5, 6, 7, 8, 0] rfl)
              · skip
                have c_26' : w0_12.toInt ≠ z_25.toInt := jb_eq_n (rfl) (rfl) c_26
                refine lv_iconst (v := 0) hx hb dX13_areAlike_107 (by decide) ?_
                rw [hQ]
                exact W.zret (v := 0) hx hb hr (jb_nz (Or.inl rfl)) (fun t ht hW => ⟨⟨0, (), rfl, ⟨(Or.inl rfl), by first | omega | rfl | assumption | decide | exact Or.inl rfl | exact Or.inr rfl | (simp only; omega)⟩, hh_21.rt (M1 := []) [] rfl ht⟩, by rw [ht]; try exact hh_21.1.1, fun q h9 hq => by rw [ht]; try exact hh_21.1.2.1 q h9 hq⟩) hh_21.1.2.2 dX13_areAlike_108
          refine lv_icmp_ge (tgt := 64) hx hb dX13_areAlike_44 (by decide) (fun c_28 => ?_) (fun c_28 => ?_)
          · skip
            have c_28' : v6_9.toInt ≥ z_11.toInt := jb_ge (rfl) (rfl) c_28
            refine lv_bipush (v := 39) hx hb dX13_areAlike_64 (by decide) ?_
            exact C66 39 _ _ hh_9 (trivial) _ (lv_sub hl [0, 1, 2, 3, 4, 5, 6] rfl)
          · skip
            have c_28' : v6_9.toInt < z_11.toInt := jb_ge_n (rfl) (rfl) c_28
            refine lv_aload_n hx hb dX13_areAlike_47 rfl (lv_at hl 0 rfl) ?_
            obtain ⟨v_29, hv_29, hh_30⟩ := hh_9.pin (C := RX13) (T := TX13) (N := 50) hB15 rfl (by decide) hg_r0 (i := 6) (by decide) rfl
            clear hh_9
            obtain ⟨signs_31, rfl, hg_signs_31⟩ := hv_29
            refine j7_read hx hb hown hK (C := RX13) (T := TX13) (N := 50) rfl hly_15_6 hlk_28 (hh_30.at 0 rfl) dX13_areAlike_48 ?_
            refine lv_aload_n hx hb dX13_areAlike_51 rfl (lv_at hl 0 rfl) ?_
            obtain ⟨v_32, hv_32, hh_33⟩ := hh_30.pin (C := RX13) (T := TX13) (N := 50) hB15 rfl (by decide) hg_r0 (i := 8) (by decide) rfl
            clear hh_30
            obtain ⟨nameAt_34, rfl, hg_nameAt_34⟩ := hv_32
            refine j7_read hx hb hown hK (C := RX13) (T := TX13) (N := 50) rfl hly_15_8 hlk_31 (hh_33.at 0 rfl) dX13_areAlike_52 ?_
            refine lv_iload_n hx hb dX13_areAlike_55 rfl (lv_at hl 1 rfl) ?_
            refine j7_iald hx hb hK hh_33 hB155 1 rfl (by decide) hg_nameAt_34 (x := a1.toInt) (rfl) (by omega) dX13_areAlike_56 (fun z_35 (hz_35 : 0 ≤ z_35.toInt ∧ z_35.toInt ≤ 11990) => ?_)
            refine lv_iload hx hb dX13_areAlike_57 (lv_at hl 6 rfl) ?_
            refine lv_iadd hx hb dX13_areAlike_59 ?_
            refine lv_topi (fun z_36 ez_36 => ?_)
            have hz_36 : z_36.toInt = z_35.toInt + v6_9.toInt := by rw [ez_36]; exact jb_iadd2 (rfl) (rfl) (by omega)
            refine j7_iald hx hb hK hh_33 hB166 1 rfl (by decide) hg_signs_31 (x := z_36.toInt) (rfl) (by omega) dX13_areAlike_60 (fun z_37 (hz_37 : True) => ?_)
            refine lv_goto (tgt := 66) hx hb dX13_areAlike_61 (by decide) ?_
            exact C66 z_37 _ _ (hh_33.sub (L1 := [(r0, 15, 9, .ref nameLength_3)]) [2] rfl (M1 := []) [] rfl (I1 := []) [] rfl) (trivial) _ (lv_sub hl [0, 1, 2, 3, 4, 5, 6] rfl)
    exact L29 (((z_5.toInt - (0 : Int32).toInt).toNat : Int) : Int).toNat.succ 0 _ _ hh_2 (by first | omega | rfl | assumption | decide | exact Or.inl rfl | exact Or.inr rfl | (simp only; omega)) (by omega) _ (lv_sub hl [2, 3, 4, 5, 6, 1, 0] rfl)
  · skip
    have c_8' : z_5.toInt ≠ z_7.toInt := jb_eq_n (rfl) (rfl) c_8
    refine lv_iconst (v := 0) hx hb dX13_areAlike_24 (by decide) ?_
    rw [hQ]
    exact W.zret (v := 0) hx hb hr (jb_nz (Or.inl rfl)) (fun t ht hW => ⟨⟨0, (), rfl, ⟨(Or.inl rfl), by first | omega | rfl | assumption | decide | exact Or.inl rfl | exact Or.inr rfl | (simp only; omega)⟩, hh_2.rt (M1 := []) [] rfl ht⟩, by rw [ht]; try exact hh_2.1.1, fun q h9 hq => by rw [ht]; try exact hh_2.1.2.1 q h9 hq⟩) hh_2.1.2.2 dX13_areAlike_25
set_option maxHeartbeats 4000000 in
set_option maxRecDepth 20000 in
theorem uX13_stands (l : Launch) (dC : Nat → ClassId) (dI : Nat → Nat → Nat) (ca : Nat → ClassId) (base : Nat) (B : jF) (hB : jBok B) (hAp : jAp (dC, dI)) (hB15 : ∀ n G a H, B 15 n G a H ↔ jOb (dC, dI) 15 50 (F15 n G) a H) (hB150 : ∀ n G a H, B 150 n G a H ↔ jAr (dC, dI) (ca 1) (fun j z => True) n a H) (hB151 : ∀ n G a H, B 151 n G a H ↔ jAr (dC, dI) (ca 1) (fun j z => True) n a H) (hB152 : ∀ n G a H, B 152 n G a H ↔ jAr (dC, dI) (ca 1) (fun j z => True) n a H) (hB153 : ∀ n G a H, B 153 n G a H ↔ jAr (dC, dI) (ca 1) (fun j z => True) n a H) (hB154 : ∀ n G a H, B 154 n G a H ↔ jAr (dC, dI) (ca 1) (fun j z => True) n a H) (hB155 : ∀ n G a H, B 155 n G a H ↔ jAr (dC, dI) (ca 1) (fun j z => 0 ≤ z.toInt ∧ z.toInt ≤ 11990) n a H) (hB156 : ∀ n G a H, B 156 n G a H ↔ jAr (dC, dI) (ca 1) (fun j z => 0 ≤ z.toInt ∧ z.toInt ≤ 10) n a H) (hB163 : ∀ n G a H, B 163 n G a H ↔ jAr (dC, dI) (ca 1) (fun j z => 0 ≤ z.toInt ∧ z.toInt ≤ 1599) n a H) (hB164 : ∀ n G a H, B 164 n G a H ↔ jAr (dC, dI) (ca 1) (fun j z => 0 ≤ z.toInt ∧ z.toInt ≤ 100000) n a H) (hB165 : ∀ n G a H, B 165 n G a H ↔ jAr (dC, dI) (ca 1) (fun j z => 0 ≤ z.toInt ∧ z.toInt ≤ 3) n a H) (hB166 : ∀ n G a H, B 166 n G a H ↔ jAr (dC, dI) (ca 1) (fun j z => True) n a H) (d : Nat) (ih : ∀ d1, d1 < d → qX13_stands l dC dI ca base B d1) (G0 : jT) (H0 : Heap) (r0 : Nat) (a1 : Int32) (a2 : Int32) (a3 : Int32) (a4 : Int32) (pv : Int32) (zm : Nat) (zs : Nat) (zn : Nat) (za : Nat) (zb : Nat) (zc : Nat) (zy : Nat) (M : Int) (fm : Nat → Int32) (C : jK) : Met l yX13_stands (jw yX13_stands cX13_stands 8 (some .boolean)) ({ frames := d + 6, cells := 0, slots := 0, locals := 60 * d + 300 }) (va_Pc [.ref r0, .int a1, .int a2, .int a3, .int a4] (fun U => U.heap = H0 ∧ jX B base G0 [] H0 ∧ jG dC dI ca base U ∧ G0 r0 = some (15, 0) ∧ G0 zm = some (164, 100) ∧ G0 zs = some (150, 120000) ∧ G0 zn = some (151, 120000) ∧ G0 za = some (152, 120000) ∧ G0 zb = some (153, 120000) ∧ G0 zc = some (154, 120000) ∧ G0 zy = some (165, 16) ∧ jP (dC, dI) G0 H0 [(r0, 15, 49, .int pv), (r0, 15, 48, .ref zm), (r0, 15, 0, .ref zs), (r0, 15, 1, .ref zn), (r0, 15, 2, .ref za), (r0, 15, 3, .ref zb), (r0, 15, 4, .ref zc), (r0, 15, 14, .ref zy)] ∧ jMc (dC, dI) G0 H0 [(zm, 164, 100, ca 1, fm), (zs, 150, 120000, ca 1, C.s), (zn, 151, 120000, ca 1, C.n), (za, 152, 120000, ca 1, C.a), (zb, 153, 120000, ca 1, C.b), (zc, 154, 120000, ca 1, C.c), (zy, 165, 16, ca 1, C.y)] ∧ jFm C 120000 16 d (pv.toInt + 1 + a2.toInt) a1.toInt ∧ jMx fm pv.toInt M ∧ 0 ≤ a2.toInt ∧ a2.toInt + d ≤ 2000 ∧ 0 ≤ pv.toInt ∧ pv.toInt ≤ 99 ∧ 0 ≤ a3.toInt ∧ a3.toInt ≤ 1599 ∧ 0 ≤ a4.toInt ∧ a4.toInt ≤ 100000 ∧ 0 ≤ M ∧ M ≤ 100000)) (va_Qi (S := Unit) (fun r u => (r = 0 ∨ r = 1) ∧ (a4.toInt ≤ 10 + M + 300000 * (1 - r.toInt))) (fun u t => jRt (dC, dI) B base G0 EX13_stands H0 [] t.heap) (jA base)) 0 0 (jA base) := by
  refine Met.ofW (cc := cX13_stands) (maxL := 8) (ret := (some .boolean)) (by decide) rfl ?_
  intro p e s m args below meth c s₁ Bd hml hv
  obtain ⟨rfl, hH0, hX, hG, hg_r0, hg_zm, hg_zs, hg_zn, hg_za, hg_zb, hg_zc, hg_zy, hP0, hM0, hp0, hp1, hp2, hp3, hp4, hp5, hp6, hp7, hp8, hp9, hp10, hp11⟩ := hv
  have hK := hG.1
  have hx := Bd.exec
  have hb := Bd.bytes
  have hr := Bd.returns
  have hts := atoms_spec (ws := (jw yX13_stands cX13_stands 8 (some .boolean))) Bd.pre
  have htw : ∀ w ∈ jWl, w.before _ s = true := fun w h => hts w (List.mem_cons_of_mem _ h)
  have hown : s.vm.findClass RX13 = some m.cls := findClass_of_methodNamed Bd.named
  have hlocks := Bd.notSynchronized
  obtain ⟨Q, hQ⟩ : ∃ Q, Q = MQ below (va_Qi (S := Unit) (fun r u => (r = 0 ∨ r = 1) ∧ (a4.toInt ≤ 10 + M + 300000 * (1 - r.toInt))) (fun u t => jRt (dC, dI) B base G0 EX13_stands H0 [] t.heap) (jA base)) ([.ref r0, .int a1, .int a2, .int a3, .int a4] : List Value).toArray s 0 0 (jA base) := ⟨_, rfl⟩
  rw [← hQ]
  have hl := lv_entry ([.ref r0, .int a1, .int a2, .int a3, .int a4]) (n := 8) (Nat.le_of_ble_eq_true rfl)
  rw [lg_entry_eq]
  generalize (lg_sl ([.ref r0, .int a1, .int a2, .int a3, .int a4]) ++ List.replicate (8 - (lg_sl ([.ref r0, .int a1, .int a2, .int a3, .int a4])).length) Slot.unset).toArray = ls at hl ⊢
  have hl : lv_has ls 8 [(0, .ref r0), (1, .int a1), (2, .int a2), (3, .int a3), (4, .int a4)] := hl
  generalize hR : (headSpec (jw yX13_stands cX13_stands 8 (some .boolean)) ({ frames := d + 6, cells := 0, slots := 0, locals := 60 * d + 300 })).room = R
  subst hH0
  have hh : jSt (dC, dI) B base G0 G0 EX13_stands s.heap 0 0 [(r0, 15, 49, .int pv), (r0, 15, 48, .ref zm), (r0, 15, 0, .ref zs), (r0, 15, 1, .ref zn), (r0, 15, 2, .ref za), (r0, 15, 3, .ref zb), (r0, 15, 4, .ref zc), (r0, 15, 14, .ref zy)] [(zm, 164, 100, ca 1, fm), (zs, 150, 120000, ca 1, C.s), (zn, 151, 120000, ca 1, C.n), (za, 152, 120000, ca 1, C.a), (zb, 153, 120000, ca 1, C.b), (zc, 154, 120000, ca 1, C.c), (zy, 165, 16, ca 1, C.y)] [] s.heap [] := jSt.start hX hP0 hM0 jIs.nil
  clear hX hP0
  have hk0 : (0 : Int32).toInt = 0 := by decide
  have hk1 : (1 : Int32).toInt = 1 := by decide
  have hk4 : (4 : Int32).toInt = 4 := by decide
  have hk5 : (5 : Int32).toInt = 5 := by decide
  have hk7 : (7 : Int32).toInt = 7 := by decide
  have hk8 : (8 : Int32).toInt = 8 := by decide
  have hk9 : (9 : Int32).toInt = 9 := by decide
  have hk10 : (10 : Int32).toInt = 10 := by decide
  have hly_15_0 := htw (u_lay RX13 TX13 0) (jWc_wsX130 _ (u_in_lay (by decide)))
  have hly_15_1 := htw (u_lay RX13 TX13 1) (jWc_wsX130 _ (u_in_lay (by decide)))
  have hly_15_12 := htw (u_lay RX13 TX13 12) (jWc_wsX130 _ (u_in_lay (by decide)))
  have hly_15_47 := htw (u_lay RX13 TX13 47) (jWc_wsX130 _ (u_in_lay (by decide)))
  have hly_15_48 := htw (u_lay RX13 TX13 48) (jWc_wsX130 _ (u_in_lay (by decide)))
  have hly_15_49 := htw (u_lay RX13 TX13 49) (jWc_wsX130 _ (u_in_lay (by decide)))
  have hlk_12 := (htw (.fieldLink RX13 12 "ProofServerModel$Kernel" "sort" "[I") (jWr_14 _ (List.mem_of_getElem? (i := 9) rfl)))
  have hlk_37 := (htw (.fieldLink RX13 37 "ProofServerModel$Kernel" "symbol" "[I") (jWr_14 _ (List.mem_of_getElem? (i := 17) rfl)))
  have hlk_16 := (htw (.fieldLink RX13 16 "ProofServerModel$Kernel" "name" "[I") (jWr_14 _ (List.mem_of_getElem? (i := 10) rfl)))
  have hlk_388 := (htw (.fieldLink RX13 388 "ProofServerModel$Kernel" "written" "I") (jWr_71 _ (List.mem_of_getElem? (i := 4) rfl)))
  have hlk_93 := (htw (.fieldLink RX13 93 "ProofServerModel$Kernel" "writtenName" "[I") (jWr_15 _ (List.mem_of_getElem? (i := 12) rfl)))
  have hlk_96 := (htw (.fieldLink RX13 96 "ProofServerModel$Kernel" "writtenMarks" "[I") (jWr_15 _ (List.mem_of_getElem? (i := 13) rfl)))
  have hrg_a1 := jb_rng a1
  have hrg_a2 := jb_rng a2
  have hrg_a3 := jb_rng a3
  have hrg_a4 := jb_rng a4
  have hnd := hp0.nd
  obtain ⟨g1, g2, g3, g4, g5, g6, g7, g8, g9⟩ := hnd
  have hpos := hp0.pos
  refine lv_aload_n hx hb dX13_stands_0 rfl (lv_at hl 0 rfl) ?_
  refine j7_read hx hb hown hK (C := RX13) (T := TX13) (N := 50) rfl hly_15_0 hlk_12 (hh.at 2 rfl) dX13_stands_1 ?_
  refine lv_iload_n hx hb dX13_stands_4 rfl (lv_at hl 1 rfl) ?_
  refine j7_ialdM hx hb hK hh hB150 1 rfl (by decide) hg_zs (x := a1.toInt) (rfl) (by omega) (j := 1) rfl dX13_stands_5 (fun z_1 ez_1 (hz_1 : True) => ?_)
  have hqz_1 : z_1.toInt = jSo C.s (a1.toInt) := by unfold jSo; rw [ez_1]
  refine lv_istore (lv' := [(5, .int z_1), (0, .ref r0), (1, .int a1), (2, .int a2), (3, .int a3), (4, .int a4)]) hx hb dX13_stands_6 hl (by decide) rfl (fun ls hl => ?_)
  refine lv_iload hx hb dX13_stands_8 (lv_at hl 0 rfl) ?_
  refine lv_bipush (v := 7) hx hb dX13_stands_10 (by decide) ?_
  have C46 : ∀ (H_2 : Heap) (locs_2 : List Loc), jSt (dC, dI) B base G0 G0 EX13_stands s.heap 0 0 [(r0, 15, 49, .int pv), (r0, 15, 48, .ref zm), (r0, 15, 0, .ref zs), (r0, 15, 1, .ref zn), (r0, 15, 2, .ref za), (r0, 15, 3, .ref zb), (r0, 15, 4, .ref zc), (r0, 15, 14, .ref zy)] [(zm, 164, 100, ca 1, fm), (zs, 150, 120000, ca 1, C.s), (zn, 151, 120000, ca 1, C.n), (za, 152, 120000, ca 1, C.a), (zb, 153, 120000, ca 1, C.b), (zc, 154, 120000, ca 1, C.c), (zy, 165, 16, ca 1, C.y)] [] H_2 locs_2 → (True) → ∀ ls : Array Slot, lv_has ls 8 [(0, .ref r0), (1, .int a1), (2, .int a2), (3, .int a3), (4, .int a4), (5, .int z_1)] → W p l e R s m ([.ref r0, .int a1, .int a2, .int a3, .int a4] : List Value).toArray below meth c H_2 locs_2 0 0 Q (F0 m 46 ls []) := by
    intro  H_2 locs_2 hh_2  hi_2 ls hl
    refine lv_iload hx hb dX13_stands_46 (lv_at hl 5 rfl) ?_
    refine lv_bipush (v := 9) hx hb dX13_stands_48 (by decide) ?_
    have C72 : ∀ (H_3 : Heap) (locs_3 : List Loc), jSt (dC, dI) B base G0 G0 EX13_stands s.heap 0 0 [(r0, 15, 49, .int pv), (r0, 15, 48, .ref zm), (r0, 15, 0, .ref zs), (r0, 15, 1, .ref zn), (r0, 15, 2, .ref za), (r0, 15, 3, .ref zb), (r0, 15, 4, .ref zc), (r0, 15, 14, .ref zy)] [(zm, 164, 100, ca 1, fm), (zs, 150, 120000, ca 1, C.s), (zn, 151, 120000, ca 1, C.n), (za, 152, 120000, ca 1, C.a), (zb, 153, 120000, ca 1, C.b), (zc, 154, 120000, ca 1, C.c), (zy, 165, 16, ca 1, C.y)] [] H_3 locs_3 → (True) → ∀ ls : Array Slot, lv_has ls 8 [(0, .ref r0), (1, .int a1), (2, .int a2), (3, .int a3), (4, .int a4), (5, .int z_1)] → W p l e R s m ([.ref r0, .int a1, .int a2, .int a3, .int a4] : List Value).toArray below meth c H_3 locs_3 0 0 Q (F0 m 72 ls []) := by
      intro  H_3 locs_3 hh_3  hi_3 ls hl
      refine lv_iload hx hb dX13_stands_72 (lv_at hl 5 rfl) ?_
      refine lv_bipush (v := 10) hx hb dX13_stands_74 (by decide) ?_
      have C130 : ∀ (H_4 : Heap) (locs_4 : List Loc), jSt (dC, dI) B base G0 G0 EX13_stands s.heap 0 0 [(r0, 15, 49, .int pv), (r0, 15, 48, .ref zm), (r0, 15, 0, .ref zs), (r0, 15, 1, .ref zn), (r0, 15, 2, .ref za), (r0, 15, 3, .ref zb), (r0, 15, 4, .ref zc), (r0, 15, 14, .ref zy)] [(zm, 164, 100, ca 1, fm), (zs, 150, 120000, ca 1, C.s), (zn, 151, 120000, ca 1, C.n), (za, 152, 120000, ca 1, C.a), (zb, 153, 120000, ca 1, C.b), (zc, 154, 120000, ca 1, C.c), (zy, 165, 16, ca 1, C.y)] [] H_4 locs_4 → (True) → ∀ ls : Array Slot, lv_has ls 8 [(0, .ref r0), (1, .int a1), (2, .int a2), (3, .int a3), (4, .int a4), (5, .int z_1)] → W p l e R s m ([.ref r0, .int a1, .int a2, .int a3, .int a4] : List Value).toArray below meth c H_4 locs_4 0 0 Q (F0 m 130 ls []) := by
        intro  H_4 locs_4 hh_4  hi_4 ls hl
        refine lv_iload hx hb dX13_stands_130 (lv_at hl 5 rfl) ?_
        refine lv_iconst (v := 4) hx hb dX13_stands_132 (by decide) ?_
        have C149 : ∀ (w0_5 : Int32) (H_5 : Heap) (locs_5 : List Loc), jSt (dC, dI) B base G0 G0 EX13_stands s.heap 0 0 [(r0, 15, 49, .int pv), (r0, 15, 48, .ref zm), (r0, 15, 0, .ref zs), (r0, 15, 1, .ref zn), (r0, 15, 2, .ref za), (r0, 15, 3, .ref zb), (r0, 15, 4, .ref zc), (r0, 15, 14, .ref zy)] [(zm, 164, 100, ca 1, fm), (zs, 150, 120000, ca 1, C.s), (zn, 151, 120000, ca 1, C.n), (za, 152, 120000, ca 1, C.a), (zb, 153, 120000, ca 1, C.b), (zc, 154, 120000, ca 1, C.c), (zy, 165, 16, ca 1, C.y)] [] H_5 locs_5 → (w0_5.toInt = a2.toInt + jQf C a1.toInt) → ∀ ls : Array Slot, lv_has ls 8 [(0, .ref r0), (1, .int a1), (2, .int a2), (3, .int a3), (4, .int a4), (5, .int z_1)] → W p l e R s m ([.ref r0, .int a1, .int a2, .int a3, .int a4] : List Value).toArray below meth c H_5 locs_5 0 0 Q (F0 m 149 ls [.int w0_5]) := by
          intro w0_5 H_5 locs_5 hh_5  hi_5 ls hl
          have hq01 := (jQf_ok C a1.toInt).2.2
          refine lv_istore (lv' := [(6, .int w0_5), (0, .ref r0), (1, .int a1), (2, .int a2), (3, .int a3), (4, .int a4), (5, .int z_1)]) hx hb dX13_stands_149 hl (by decide) rfl (fun ls hl => ?_)
          refine lv_iconst (v := 0) hx hb dX13_stands_151 (by decide) ?_
          refine lv_istore (lv' := [(7, .int 0), (6, .int w0_5), (0, .ref r0), (1, .int a1), (2, .int a2), (3, .int a3), (4, .int a4), (5, .int z_1)]) hx hb dX13_stands_152 hl (by decide) rfl (fun ls hl => ?_)
          have L154 : ∀ (N : Nat) (v7_6 : Int32) (H_6 : Heap) (locs_6 : List Loc), jSt (dC, dI) B base G0 G0 EX13_stands s.heap 0 0 [(r0, 15, 49, .int pv), (r0, 15, 48, .ref zm), (r0, 15, 0, .ref zs), (r0, 15, 1, .ref zn), (r0, 15, 2, .ref za), (r0, 15, 3, .ref zb), (r0, 15, 4, .ref zc), (r0, 15, 14, .ref zy)] [(zm, 164, 100, ca 1, fm), (zs, 150, 120000, ca 1, C.s), (zn, 151, 120000, ca 1, C.n), (za, 152, 120000, ca 1, C.a), (zb, 153, 120000, ca 1, C.b), (zc, 154, 120000, ca 1, C.c), (zy, 165, 16, ca 1, C.y)] [] H_6 locs_6 → (0 ≤ v7_6.toInt ∧ v7_6.toInt ≤ jPts C a1.toInt) → (3 - v7_6.toInt : Int) < N → ∀ ls : Array Slot, lv_has ls 8 [(0, .ref r0), (1, .int a1), (2, .int a2), (3, .int a3), (4, .int a4), (5, .int z_1), (6, .int w0_5), (7, .int v7_6)] → W p l e R s m ([.ref r0, .int a1, .int a2, .int a3, .int a4] : List Value).toArray below meth c H_6 locs_6 0 0 Q (F0 m 154 ls []) := by
            intro N
            induction N with
            | zero => intro v7_6 H_6 locs_6 hh_6  hi_6 hm; exact absurd hm (by omega)
            | succ N L154 =>
              intro v7_6 H_6 locs_6 hh_6  hi_6 hm_6 ls hl
              obtain ⟨hi_6_0, hi_6_1⟩ := hi_6
              refine lv_iload hx hb dX13_stands_154 (lv_at hl 7 rfl) ?_
              refine lv_aload_n hx hb dX13_stands_156 rfl (lv_at hl 0 rfl) ?_
              refine lv_iload_n hx hb dX13_stands_157 rfl (lv_at hl 1 rfl) ?_
              refine va_calli (A0 := jA base) (H0 := s.heap) (va_runV (As := [.int a1]) (rest := [.int v7_6]) ⟨hx, hb, hml, hown, hts⟩ (uX13_parts l dC dI ca base B hB hAp hB15 hB150 hB151 hB152 hB153 hB154 hB165 G0 H_6 r0 a1 zs zn za zb zc zy C) (cwV 1 hts (jgV (jWr_65 _ (List.mem_of_getElem? (i := 15) rfl)) (jWr_65 _ (List.mem_of_getElem? (i := 16) rfl)) (jWr_65 _ (List.mem_of_getElem? (i := 17) rfl)) (jWr_12 _ (List.mem_of_getElem? (i := 12) rfl)) (jWr_65 _ (List.mem_of_getElem? (i := 18) rfl))) rfl rfl rfl (by decide +kernel) ⟨by rw [← hR]; show (0) + 1 ≤ d + 6; omega, by rw [← hR]; show 8 + (3 + 11) + (0) ≤ 60 * d + 300; omega⟩) ⟨fun a U g mk q => by obtain ⟨q0, q1, q2, qK, q10, q11, q12, q13, q14, q15, q16, q17, q18, q19⟩ := q; exact ⟨q0, q1, q2, jG.calling g mk a qK, q10, q11, q12, q13, q14, q15, q16, q17, q18, q19⟩, hh_6.recv (C := RX13) (T := TX13) (N := 50) hB15 rfl (by decide) hg_r0 hK, fun U hU hW => ⟨rfl, hU, hh_6.2.1, hG.step hW hU hh_6.1, hg_r0, hg_zs, hg_zn, hg_za, hg_zb, hg_zc, hg_zy, (hh_6.2.2.1.sub (L1 := [(r0, 15, 0, .ref zs), (r0, 15, 1, .ref zn), (r0, 15, 2, .ref za), (r0, 15, 3, .ref zb), (r0, 15, 4, .ref zc), (r0, 15, 14, .ref zy)]) [2, 3, 4, 5, 6, 7] rfl), (hh_6.2.2.2.2.2.2.2.1.sub (L1 := [(zs, 150, 120000, ca 1, C.s), (zn, 151, 120000, ca 1, C.n), (za, 152, 120000, ca 1, C.a), (zb, 153, 120000, ca 1, C.b), (zc, 154, 120000, ca 1, C.c), (zy, 165, 16, ca 1, C.y)]) [1, 2, 3, 4, 5, 6] rfl), ⟨(by first | omega | rfl | assumption | exact hp0.sym (by omega)), (by first | omega | rfl | assumption | exact hp0.sym (by omega)), (by first | assumption | exact hp0.sym (by omega) | omega)⟩⟩⟩ rfl rfl hl.1 rfl (lv_room (Nat.le_of_ble_eq_true rfl)) dX13_stands_158 ⟨Nat.zero_le _, Nat.zero_le _⟩) hh_6.1 (fun q _ h => h) (fun q h => h) (fun r_8 u_7 t_7 H_7 locs_7 ht_7 hvm_7 hr_8 hb_7 hz_7 hk_7 hS_7 => ?_)
              rw [ht_7] at hb_7
              obtain ⟨hb_71, hb_72, hb_73, hb_74, hb_75⟩ := hb_7
              have hh_7 : jSt (dC, dI) B base G0 G0 EX13_stands s.heap 0 0 [(r0, 15, 49, .int pv), (r0, 15, 48, .ref zm), (r0, 15, 0, .ref zs), (r0, 15, 1, .ref zn), (r0, 15, 2, .ref za), (r0, 15, 3, .ref zb), (r0, 15, 4, .ref zc), (r0, 15, 14, .ref zy)] [(zm, 164, 100, ca 1, fm), (zs, 150, 120000, ca 1, C.s), (zn, 151, 120000, ca 1, C.n), (za, 152, 120000, ca 1, C.a), (zb, 153, 120000, ca 1, C.b), (zc, 154, 120000, ca 1, C.c), (zy, 165, 16, ca 1, C.y)] [] H_7 locs_7 := ((hh_6.call hb_71 hb_72 hb_73 hb_74 hS_7 rfl (L1 := [(r0, 15, 49, .int pv), (r0, 15, 48, .ref zm), (r0, 15, 0, .ref zs), (r0, 15, 1, .ref zn), (r0, 15, 2, .ref za), (r0, 15, 3, .ref zb), (r0, 15, 4, .ref zc), (r0, 15, 14, .ref zy)]) [0, 1, 2, 3, 4, 5, 6, 7] rfl rfl (M1 := [(zm, 164, 100, ca 1, fm), (zs, 150, 120000, ca 1, C.s), (zn, 151, 120000, ca 1, C.n), (za, 152, 120000, ca 1, C.a), (zb, 153, 120000, ca 1, C.b), (zc, 154, 120000, ca 1, C.c), (zy, 165, 16, ca 1, C.y)]) [0, 1, 2, 3, 4, 5, 6] rfl rfl (I1 := []) [] rfl rfl).more hb_75)
              clear hh_6 ht_7 hvm_7 hz_7 hk_7 hS_7 hb_71 hb_72 hb_73 hb_74 hb_75
              obtain ⟨hr_8_0, hr_8_1, hr_8_2⟩ := hr_8
              refine lv_icmp_ge (tgt := 191) hx hb dX13_stands_161 (by decide) (fun c_9 => ?_) (fun c_9 => ?_)
              · skip
                have c_9' : v7_6.toInt ≥ r_8.toInt := jb_ge (rfl) (rfl) c_9
                refine lv_iconst (v := 0) hx hb dX13_stands_191 (by decide) ?_
                rw [hQ]
                exact W.zret (v := 0) hx hb hr (jb_nz (Or.inl rfl)) (fun t ht hW => ⟨⟨0, (), rfl, ⟨(Or.inl rfl), by first | omega | rfl | assumption | decide | exact Or.inl rfl | exact Or.inr rfl | (simp only; omega)⟩, hh_7.rt (M1 := []) [] rfl ht⟩, by rw [ht]; try exact hh_7.1.1, fun q h9 hq => by rw [ht]; try exact hh_7.1.2.1 q h9 hq⟩) hh_7.1.2.2 dX13_stands_192
              · skip
                have c_9' : v7_6.toInt < r_8.toInt := jb_ge_n (rfl) (rfl) c_9
                refine lv_aload_n hx hb dX13_stands_164 rfl (lv_at hl 0 rfl) ?_
                refine lv_aload_n hx hb dX13_stands_165 rfl (lv_at hl 0 rfl) ?_
                refine lv_iload_n hx hb dX13_stands_166 rfl (lv_at hl 1 rfl) ?_
                refine lv_iload hx hb dX13_stands_167 (lv_at hl 7 rfl) ?_
                refine va_calli (A0 := jA base) (H0 := s.heap) (va_runV (As := [.int a1, .int v7_6]) (rest := [.ref r0]) ⟨hx, hb, hml, hown, hts⟩ (uX13_partK l dC dI ca base B hB hAp hB15 hB150 hB151 hB152 hB153 hB154 hB165 G0 H_7 r0 a1 v7_6 zs zn za zb zc zy C) (cwV 2 hts (jgV (jWr_65 _ (List.mem_of_getElem? (i := 19) rfl)) (jWr_65 _ (List.mem_of_getElem? (i := 20) rfl)) (jWr_65 _ (List.mem_of_getElem? (i := 21) rfl)) (jWr_12 _ (List.mem_of_getElem? (i := 12) rfl)) (jWr_65 _ (List.mem_of_getElem? (i := 22) rfl))) rfl rfl rfl (by decide +kernel) ⟨by rw [← hR]; show (0) + 1 ≤ d + 6; omega, by rw [← hR]; show 8 + (3 + 11) + (0) ≤ 60 * d + 300; omega⟩) ⟨fun a U g mk q => by obtain ⟨q0, q1, q2, qK, q10, q11, q12, q13, q14, q15, q16, q17, q18, q19⟩ := q; exact ⟨q0, q1, q2, jG.calling g mk a qK, q10, q11, q12, q13, q14, q15, q16, q17, q18, q19⟩, hh_7.recv (C := RX13) (T := TX13) (N := 50) hB15 rfl (by decide) hg_r0 hK, fun U hU hW => ⟨rfl, hU, hh_7.2.1, hG.step hW hU hh_7.1, hg_r0, hg_zs, hg_zn, hg_za, hg_zb, hg_zc, hg_zy, (hh_7.2.2.1.sub (L1 := [(r0, 15, 0, .ref zs), (r0, 15, 1, .ref zn), (r0, 15, 2, .ref za), (r0, 15, 3, .ref zb), (r0, 15, 4, .ref zc), (r0, 15, 14, .ref zy)]) [2, 3, 4, 5, 6, 7] rfl), (hh_7.2.2.2.2.2.2.2.1.sub (L1 := [(zs, 150, 120000, ca 1, C.s), (zn, 151, 120000, ca 1, C.n), (za, 152, 120000, ca 1, C.a), (zb, 153, 120000, ca 1, C.b), (zc, 154, 120000, ca 1, C.c), (zy, 165, 16, ca 1, C.y)]) [1, 2, 3, 4, 5, 6] rfl), by first | omega | (refine ⟨?_, ?_⟩ <;> (first | omega | rfl | assumption | decide | exact Or.inl rfl | exact Or.inr rfl | (simp only; omega)))⟩⟩ rfl rfl hl.1 rfl (lv_room (Nat.le_of_ble_eq_true rfl)) dX13_stands_169 ⟨Nat.zero_le _, Nat.zero_le _⟩) hh_7.1 (fun q _ h => h) (fun q h => h) (fun r_11 u_10 t_10 H_10 locs_10 ht_10 hvm_10 hr_11 hb_10 hz_10 hk_10 hS_10 => ?_)
                rw [ht_10] at hb_10
                obtain ⟨hb_101, hb_102, hb_103, hb_104, hb_105⟩ := hb_10
                have hh_10 : jSt (dC, dI) B base G0 G0 EX13_stands s.heap 0 0 [(r0, 15, 49, .int pv), (r0, 15, 48, .ref zm), (r0, 15, 0, .ref zs), (r0, 15, 1, .ref zn), (r0, 15, 2, .ref za), (r0, 15, 3, .ref zb), (r0, 15, 4, .ref zc), (r0, 15, 14, .ref zy)] [(zm, 164, 100, ca 1, fm), (zs, 150, 120000, ca 1, C.s), (zn, 151, 120000, ca 1, C.n), (za, 152, 120000, ca 1, C.a), (zb, 153, 120000, ca 1, C.b), (zc, 154, 120000, ca 1, C.c), (zy, 165, 16, ca 1, C.y)] [] H_10 locs_10 := ((hh_7.call hb_101 hb_102 hb_103 hb_104 hS_10 rfl (L1 := [(r0, 15, 49, .int pv), (r0, 15, 48, .ref zm), (r0, 15, 0, .ref zs), (r0, 15, 1, .ref zn), (r0, 15, 2, .ref za), (r0, 15, 3, .ref zb), (r0, 15, 4, .ref zc), (r0, 15, 14, .ref zy)]) [0, 1, 2, 3, 4, 5, 6, 7] rfl rfl (M1 := [(zm, 164, 100, ca 1, fm), (zs, 150, 120000, ca 1, C.s), (zn, 151, 120000, ca 1, C.n), (za, 152, 120000, ca 1, C.a), (zb, 153, 120000, ca 1, C.b), (zc, 154, 120000, ca 1, C.c), (zy, 165, 16, ca 1, C.y)]) [0, 1, 2, 3, 4, 5, 6] rfl rfl (I1 := []) [] rfl rfl).more hb_105)
                clear hh_7 ht_10 hvm_10 hz_10 hk_10 hS_10 hb_101 hb_102 hb_103 hb_104 hb_105
                refine lv_iload hx hb dX13_stands_172 (lv_at hl 6 rfl) ?_
                refine lv_iload_n hx hb dX13_stands_174 rfl (lv_at hl 3 rfl) ?_
                refine lv_iload hx hb dX13_stands_175 (lv_at hl 4 rfl) ?_
                refine va_calli (A0 := jA base) (H0 := s.heap) (va_runV (As := [.int r_11, .int w0_5, .int a3, .int a4]) (rest := []) ⟨hx, hb, hml, hown, hts⟩ (ih (d - 1) (by omega) G0 H_10 r0 r_11 w0_5 a3 a4 pv zm zs zn za zb zc zy M fm C) (cwV 4 hts (jgV (jWr_72 _ (List.mem_of_getElem? (i := 0) rfl)) (jWr_72 _ (List.mem_of_getElem? (i := 1) rfl)) (jWr_72 _ (List.mem_of_getElem? (i := 2) rfl)) (jWr_12 _ (List.mem_of_getElem? (i := 12) rfl)) (jWr_72 _ (List.mem_of_getElem? (i := 3) rfl))) rfl rfl rfl (by decide +kernel) ⟨by rw [← hR]; show (d - 1 + 6) + 1 ≤ d + 6; omega, by rw [← hR]; show 8 + (8 + 11) + (60 * (d - 1) + 300) ≤ 60 * d + 300; omega⟩) ⟨fun a U g mk q => by obtain ⟨q0, q1, q2, qK, q10, q11, q12, q13, q14, q15, q16, q17, q18, q19, q20⟩ := q; exact ⟨q0, q1, q2, jG.calling g mk a qK, q10, q11, q12, q13, q14, q15, q16, q17, q18, q19, q20⟩, hh_10.recv (C := RX13) (T := TX13) (N := 50) hB15 rfl (by decide) hg_r0 hK, fun U hU hW => ⟨rfl, hU, hh_10.2.1, hG.step hW hU hh_10.1, hg_r0, hg_zm, hg_zs, hg_zn, hg_za, hg_zb, hg_zc, hg_zy, (hh_10.2.2.1.sub (L1 := [(r0, 15, 49, .int pv), (r0, 15, 48, .ref zm), (r0, 15, 0, .ref zs), (r0, 15, 1, .ref zn), (r0, 15, 2, .ref za), (r0, 15, 3, .ref zb), (r0, 15, 4, .ref zc), (r0, 15, 14, .ref zy)]) [0, 1, 2, 3, 4, 5, 6, 7] rfl), (hh_10.2.2.2.2.2.2.2.1.sub (L1 := [(zm, 164, 100, ca 1, fm), (zs, 150, 120000, ca 1, C.s), (zn, 151, 120000, ca 1, C.n), (za, 152, 120000, ca 1, C.a), (zb, 153, 120000, ca 1, C.b), (zc, 154, 120000, ca 1, C.c), (zy, 165, 16, ca 1, C.y)]) [0, 1, 2, 3, 4, 5, 6] rfl), ⟨(by first | assumption | (rw [hr_11]; exact (hp0.part (by omega) (by omega)).mono (Nat.le_refl _) (by omega)) | exact hp1 | omega), (by first | assumption | (rw [hr_11]; exact (hp0.part (by omega) (by omega)).mono (Nat.le_refl _) (by omega)) | exact hp1 | omega), (by first | omega | rfl | assumption | (rw [hr_11]; exact (hp0.part (by omega) (by omega)).mono (Nat.le_refl _) (by omega)) | exact hp1), (by first | omega | rfl | assumption | (rw [hr_11]; exact (hp0.part (by omega) (by omega)).mono (Nat.le_refl _) (by omega)) | exact hp1), (by first | omega | rfl | assumption | (rw [hr_11]; exact (hp0.part (by omega) (by omega)).mono (Nat.le_refl _) (by omega)) | exact hp1), (by first | omega | rfl | assumption | (rw [hr_11]; exact (hp0.part (by omega) (by omega)).mono (Nat.le_refl _) (by omega)) | exact hp1), (by first | omega | rfl | assumption | (rw [hr_11]; exact (hp0.part (by omega) (by omega)).mono (Nat.le_refl _) (by omega)) | exact hp1), (by first | omega | rfl | assumption | (rw [hr_11]; exact (hp0.part (by omega) (by omega)).mono (Nat.le_refl _) (by omega)) | exact hp1), (by first | omega | rfl | assumption | (rw [hr_11]; exact (hp0.part (by omega) (by omega)).mono (Nat.le_refl _) (by omega)) | exact hp1), (by first | omega | rfl | assumption | (rw [hr_11]; exact (hp0.part (by omega) (by omega)).mono (Nat.le_refl _) (by omega)) | exact hp1), (by first | omega | rfl | assumption | (rw [hr_11]; exact (hp0.part (by omega) (by omega)).mono (Nat.le_refl _) (by omega)) | exact hp1), (by first | omega | rfl | assumption | (rw [hr_11]; exact (hp0.part (by omega) (by omega)).mono (Nat.le_refl _) (by omega)) | exact hp1)⟩⟩⟩ rfl rfl hl.1 rfl (lv_room (Nat.le_of_ble_eq_true rfl)) dX13_stands_177 ⟨Nat.zero_le _, Nat.zero_le _⟩) hh_10.1 (fun q _ h => h) (fun q h => h) (fun r_13 u_12 t_12 H_12 locs_12 ht_12 hvm_12 hr_13 hb_12 hz_12 hk_12 hS_12 => ?_)
                rw [ht_12] at hb_12
                obtain ⟨hb_121, hb_122, hb_123, hb_124, hb_125⟩ := hb_12
                have hh_12 : jSt (dC, dI) B base G0 G0 EX13_stands s.heap 0 0 [(r0, 15, 49, .int pv), (r0, 15, 48, .ref zm), (r0, 15, 0, .ref zs), (r0, 15, 1, .ref zn), (r0, 15, 2, .ref za), (r0, 15, 3, .ref zb), (r0, 15, 4, .ref zc), (r0, 15, 14, .ref zy)] [(zm, 164, 100, ca 1, fm), (zs, 150, 120000, ca 1, C.s), (zn, 151, 120000, ca 1, C.n), (za, 152, 120000, ca 1, C.a), (zb, 153, 120000, ca 1, C.b), (zc, 154, 120000, ca 1, C.c), (zy, 165, 16, ca 1, C.y)] [] H_12 locs_12 := ((hh_10.call hb_121 hb_122 hb_123 hb_124 hS_12 rfl (L1 := [(r0, 15, 49, .int pv), (r0, 15, 48, .ref zm), (r0, 15, 0, .ref zs), (r0, 15, 1, .ref zn), (r0, 15, 2, .ref za), (r0, 15, 3, .ref zb), (r0, 15, 4, .ref zc), (r0, 15, 14, .ref zy)]) [0, 1, 2, 3, 4, 5, 6, 7] rfl rfl (M1 := [(zm, 164, 100, ca 1, fm), (zs, 150, 120000, ca 1, C.s), (zn, 151, 120000, ca 1, C.n), (za, 152, 120000, ca 1, C.a), (zb, 153, 120000, ca 1, C.b), (zc, 154, 120000, ca 1, C.c), (zy, 165, 16, ca 1, C.y)]) [0, 1, 2, 3, 4, 5, 6] rfl rfl (I1 := []) [] rfl rfl).more hb_125)
                clear hh_10 ht_12 hvm_12 hz_12 hk_12 hS_12 hb_121 hb_122 hb_123 hb_124 hb_125
                obtain ⟨hr_13b, hr_13p⟩ := hr_13
                have hr_13' := jb_01 hr_13b
                refine lv_if_eq (tgt := 185) hx hb dX13_stands_180 (by decide) (fun c_14 => ?_) (fun c_14 => ?_)
                · skip
                  have c_14' : r_13.toInt = 0 := jb_eq (rfl) ((by decide)) c_14
                  obtain ⟨z_15, ez_15⟩ : ∃ y : Int32, y = v7_6 + 1 := ⟨_, rfl⟩
                  refine lv_iinc (v := z_15) (lv' := [(7, .int z_15), (0, .ref r0), (1, .int a1), (2, .int a2), (3, .int a3), (4, .int a4), (5, .int z_1), (6, .int w0_5)]) hx hb dX13_stands_185 hl (k := 7) rfl (by rw [ez_15]; rfl) (by decide) rfl (fun ls hl => ?_)
                  have hz_15 : z_15.toInt = v7_6.toInt + 1 := by rw [ez_15]; exact jb_iadd2 (rfl) (by decide) (by omega)
                  refine lv_goto (tgt := 154) hx hb dX13_stands_188 (by decide) ?_
                  exact L154 z_15 _ _ hh_12 (by first | omega | (refine ⟨?_, ?_⟩ <;> (first | omega | rfl | assumption | decide | exact Or.inl rfl | exact Or.inr rfl | (simp only; omega)))) (by omega) _ (lv_sub hl [1, 2, 3, 4, 5, 6, 7, 0] rfl)
                · skip
                  have c_14' : r_13.toInt ≠ 0 := jb_eq_n (rfl) ((by decide)) c_14
                  refine lv_iconst (v := 1) hx hb dX13_stands_183 (by decide) ?_
                  rw [hQ]
                  exact W.zret (v := 1) hx hb hr (jb_nz (Or.inr rfl)) (fun t ht hW => ⟨⟨1, (), rfl, ⟨(Or.inr rfl), by first | omega | rfl | assumption | decide | exact Or.inl rfl | exact Or.inr rfl | (simp only; omega)⟩, hh_12.rt (M1 := []) [] rfl ht⟩, by rw [ht]; try exact hh_12.1.1, fun q h9 hq => by rw [ht]; try exact hh_12.1.2.1 q h9 hq⟩) hh_12.1.2.2 dX13_stands_184
          exact L154 (3 - (0 : Int32).toInt : Int).toNat.succ 0 _ _ hh_5 (by first | omega | (refine ⟨?_, ?_⟩ <;> (first | omega | rfl | assumption | decide | exact Or.inl rfl | exact Or.inr rfl | (simp only; omega)))) (by omega) _ (lv_sub hl [2, 3, 4, 5, 6, 7, 1, 0] rfl)
        have C142 : ∀ (H_16 : Heap) (locs_16 : List Loc), jSt (dC, dI) B base G0 G0 EX13_stands s.heap 0 0 [(r0, 15, 49, .int pv), (r0, 15, 48, .ref zm), (r0, 15, 0, .ref zs), (r0, 15, 1, .ref zn), (r0, 15, 2, .ref za), (r0, 15, 3, .ref zb), (r0, 15, 4, .ref zc), (r0, 15, 14, .ref zy)] [(zm, 164, 100, ca 1, fm), (zs, 150, 120000, ca 1, C.s), (zn, 151, 120000, ca 1, C.n), (za, 152, 120000, ca 1, C.a), (zb, 153, 120000, ca 1, C.b), (zc, 154, 120000, ca 1, C.c), (zy, 165, 16, ca 1, C.y)] [] H_16 locs_16 → (4 ≤ jSo C.s a1.toInt ∧ jSo C.s a1.toInt ≤ 5) → ∀ ls : Array Slot, lv_has ls 8 [(0, .ref r0), (1, .int a1), (2, .int a2), (3, .int a3), (4, .int a4), (5, .int z_1)] → W p l e R s m ([.ref r0, .int a1, .int a2, .int a3, .int a4] : List Value).toArray below meth c H_16 locs_16 0 0 Q (F0 m 142 ls []) := by
          intro  H_16 locs_16 hh_16  hi_16 ls hl
          obtain ⟨hi_16_0, hi_16_1⟩ := hi_16
          have hqf := (jQf_ok C a1.toInt).1 (by omega)
          refine lv_iload_n hx hb dX13_stands_142 rfl (lv_at hl 2 rfl) ?_
          refine lv_iconst (v := 1) hx hb dX13_stands_143 (by decide) ?_
          refine lv_iadd hx hb dX13_stands_144 ?_
          refine lv_topi (fun z_17 ez_17 => ?_)
          have hz_17 : z_17.toInt = a2.toInt + 1 := by rw [ez_17]; exact jb_iadd2 (rfl) ((by decide)) (by omega)
          refine lv_goto (tgt := 149) hx hb dX13_stands_145 (by decide) ?_
          exact C149 z_17 _ _ hh_16 (by first | omega | rfl | assumption | decide | exact Or.inl rfl | exact Or.inr rfl | (simp only; omega)) _ (lv_sub hl [0, 1, 2, 3, 4, 5] rfl)
        refine lv_icmp_eq (tgt := 142) hx hb dX13_stands_133 (by decide) (fun c_18 => ?_) (fun c_18 => ?_)
        · skip
          have c_18' : z_1.toInt = 4 := jb_eq (rfl) ((by decide)) c_18
          exact C142  _ _ hh_4 (by first | omega | (refine ⟨?_, ?_⟩ <;> (first | omega | rfl | assumption | decide | exact Or.inl rfl | exact Or.inr rfl | (simp only; omega)))) _ (lv_sub hl [0, 1, 2, 3, 4, 5] rfl)
        · skip
          have c_18' : z_1.toInt ≠ 4 := jb_eq_n (rfl) ((by decide)) c_18
          refine lv_iload hx hb dX13_stands_136 (lv_at hl 5 rfl) ?_
          refine lv_iconst (v := 5) hx hb dX13_stands_138 (by decide) ?_
          refine lv_icmp_ne (tgt := 148) hx hb dX13_stands_139 (by decide) (fun c_19 => ?_) (fun c_19 => ?_)
          · skip
            have c_19' : z_1.toInt ≠ 5 := jb_ne (rfl) ((by decide)) c_19
            have hqf := (jQf_ok C a1.toInt).2.1 (by omega)
            refine lv_iload_n hx hb dX13_stands_148 rfl (lv_at hl 2 rfl) ?_
            exact C149 a2 _ _ hh_4 (by first | omega | rfl | assumption | decide | exact Or.inl rfl | exact Or.inr rfl | (simp only; omega)) _ (lv_sub hl [0, 1, 2, 3, 4, 5] rfl)
          · skip
            have c_19' : z_1.toInt = 5 := jb_ne_n (rfl) ((by decide)) c_19
            exact C142  _ _ hh_4 (by first | omega | (refine ⟨?_, ?_⟩ <;> (first | omega | rfl | assumption | decide | exact Or.inl rfl | exact Or.inr rfl | (simp only; omega)))) _ (lv_sub hl [0, 1, 2, 3, 4, 5] rfl)
      refine lv_icmp_ne (tgt := 130) hx hb dX13_stands_76 (by decide) (fun c_20 => ?_) (fun c_20 => ?_)
      · skip
        have c_20' : z_1.toInt ≠ 10 := jb_ne (rfl) ((by decide)) c_20
        exact C130  _ _ hh_3 (trivial) _ (lv_sub hl [0, 1, 2, 3, 4, 5] rfl)
      · skip
        have c_20' : z_1.toInt = 10 := jb_ne_n (rfl) ((by decide)) c_20
        have n6 := g6 (by omega)
        refine lv_aload_n hx hb dX13_stands_79 rfl (lv_at hl 0 rfl) ?_
        refine j7_read hx hb hown hK (C := RX13) (T := TX13) (N := 50) rfl hly_15_1 hlk_16 (hh_3.at 3 rfl) dX13_stands_80 ?_
        refine lv_iload_n hx hb dX13_stands_83 rfl (lv_at hl 1 rfl) ?_
        refine j7_ialdM hx hb hK hh_3 hB151 1 rfl (by decide) hg_zn (x := a1.toInt) (rfl) (by omega) (j := 2) rfl dX13_stands_84 (fun z_21 ez_21 (hz_21 : True) => ?_)
        have hqz_21 : z_21.toInt = jSo C.n (a1.toInt) := by unfold jSo; rw [ez_21]
        refine lv_iload_n hx hb dX13_stands_85 rfl (lv_at hl 2 rfl) ?_
        refine lv_icmp_le (tgt := 130) hx hb dX13_stands_86 (by decide) (fun c_22 => ?_) (fun c_22 => ?_)
        · skip
          have c_22' : z_21.toInt ≤ a2.toInt := jb_le (rfl) (rfl) c_22
          exact C130  _ _ hh_3 (trivial) _ (lv_sub hl [0, 1, 2, 3, 4, 5] rfl)
        · skip
          have c_22' : z_21.toInt > a2.toInt := jb_le_n (rfl) (rfl) c_22
          refine lv_aload_n hx hb dX13_stands_89 rfl (lv_at hl 0 rfl) ?_
          refine j7_read hx hb hown hK (C := RX13) (T := TX13) (N := 50) rfl hly_15_49 hlk_388 (hh_3.at 0 rfl) dX13_stands_90 ?_
          refine lv_aload_n hx hb dX13_stands_93 rfl (lv_at hl 0 rfl) ?_
          refine j7_read hx hb hown hK (C := RX13) (T := TX13) (N := 50) rfl hly_15_1 hlk_16 (hh_3.at 3 rfl) dX13_stands_94 ?_
          refine lv_iload_n hx hb dX13_stands_97 rfl (lv_at hl 1 rfl) ?_
          refine j7_ialdM hx hb hK hh_3 hB151 1 rfl (by decide) hg_zn (x := a1.toInt) (rfl) (by omega) (j := 2) rfl dX13_stands_98 (fun z_23 ez_23 (hz_23 : True) => ?_)
          have hqz_23 : z_23.toInt = jSo C.n (a1.toInt) := by unfold jSo; rw [ez_23]
          refine lv_iload_n hx hb dX13_stands_99 rfl (lv_at hl 2 rfl) ?_
          refine lv_isub hx hb dX13_stands_100 ?_
          refine lv_topi (fun z_24 ez_24 => ?_)
          have hz_24 : z_24.toInt = z_23.toInt - a2.toInt := by rw [ez_24]; exact jb_isub2 (rfl) (rfl) (by omega)
          refine lv_isub hx hb dX13_stands_101 ?_
          refine lv_topi (fun z_25 ez_25 => ?_)
          have hz_25 : z_25.toInt = pv.toInt - z_24.toInt := by rw [ez_25]; exact jb_isub2 (rfl) (rfl) (by omega)
          refine lv_istore (lv' := [(6, .int z_25), (0, .ref r0), (1, .int a1), (2, .int a2), (3, .int a3), (4, .int a4), (5, .int z_1)]) hx hb dX13_stands_102 hl (by decide) rfl (fun ls hl => ?_)
          refine lv_aload_n hx hb dX13_stands_104 rfl (lv_at hl 1 rfl) ?_
          refine lv_iload_n hx hb dX13_stands_105 rfl (lv_at hl 4 rfl) ?_
          refine lv_iload hx hb dX13_stands_106 (lv_at hl 5 rfl) ?_
          refine lv_aload_n hx hb dX13_stands_108 rfl (lv_at hl 1 rfl) ?_
          obtain ⟨v_26, hv_26, hh_27⟩ := hh_3.pin (C := RX13) (T := TX13) (N := 50) hB15 rfl (by decide) hg_r0 (i := 47) (by decide) rfl
          clear hh_3
          obtain ⟨writtenName_28, rfl, hg_writtenName_28⟩ := hv_26
          refine j7_read hx hb hown hK (C := RX13) (T := TX13) (N := 50) rfl hly_15_47 hlk_93 (hh_27.at 0 rfl) dX13_stands_109 ?_
          refine lv_iload hx hb dX13_stands_112 (lv_at hl 0 rfl) ?_
          refine j7_iald hx hb hK hh_27 hB163 1 rfl (by decide) hg_writtenName_28 (x := z_25.toInt) (rfl) (by omega) dX13_stands_114 (fun z_29 (hz_29 : 0 ≤ z_29.toInt ∧ z_29.toInt ≤ 1599) => ?_)
          refine lv_aload_n hx hb dX13_stands_115 rfl (lv_at hl 1 rfl) ?_
          refine j7_read hx hb hown hK (C := RX13) (T := TX13) (N := 50) rfl hly_15_48 hlk_96 (hh_27.at 2 rfl) dX13_stands_116 ?_
          refine lv_iload hx hb dX13_stands_119 (lv_at hl 0 rfl) ?_
          refine j7_ialdM hx hb hK hh_27 hB164 1 rfl (by decide) hg_zm (x := z_25.toInt) (rfl) (by omega) (j := 0) rfl dX13_stands_121 (fun z_30 ez_30 (hz_30 : 0 ≤ z_30.toInt ∧ z_30.toInt ≤ 100000) => ?_)
          have hqz_30 : z_30.toInt = jSo fm ((pv.toInt - (z_23.toInt - a2.toInt))) := by unfold jSo; rw [ez_30, show z_25.toInt = (pv.toInt - (z_23.toInt - a2.toInt)) by omega]
          have hm9 := hp1 (pv.toInt - (z_23.toInt - a2.toInt)) (by omega) (by omega)
          refine va_calli (A0 := jA base) (H0 := s.heap) (va_runV (As := [.int a3, .int a4, .int z_29, .int z_30]) (rest := []) ⟨hx, hb, hml, hown, hts⟩ (uX13_areAlikeK l dC dI ca base B hB hAp hB15 hB155 hB156 hB166 G0 H_3 r0 a3 a4 z_29 z_30) (cwV 4 hts (jgV (jWr_72 _ (List.mem_of_getElem? (i := 4) rfl)) (jWr_72 _ (List.mem_of_getElem? (i := 5) rfl)) (jWr_72 _ (List.mem_of_getElem? (i := 6) rfl)) (jWr_12 _ (List.mem_of_getElem? (i := 12) rfl)) (jWr_72 _ (List.mem_of_getElem? (i := 7) rfl))) rfl rfl rfl (by decide +kernel) ⟨by rw [← hR]; show (0) + 1 ≤ d + 6; omega, by rw [← hR]; show 8 + (9 + 11) + (0) ≤ 60 * d + 300; omega⟩) ⟨fun a U g mk q => by obtain ⟨q0, q1, q2, qK, q10, q11, q12⟩ := q; exact ⟨q0, q1, q2, jG.calling g mk a qK, q10, q11, q12⟩, hh_27.recv (C := RX13) (T := TX13) (N := 50) hB15 rfl (by decide) hg_r0 hK, fun U hU hW => ⟨rfl, hU, hh_27.2.1, hG.step hW hU hh_27.1, hg_r0, jP.nil, by first | omega | (refine ⟨?_, ?_, ?_, ?_, ?_, ?_, ?_, ?_⟩ <;> (first | omega | rfl | assumption | decide | exact Or.inl rfl | exact Or.inr rfl | (simp only; omega)))⟩⟩ rfl rfl hl.1 rfl (lv_room (Nat.le_of_ble_eq_true rfl)) dX13_stands_122 ⟨Nat.zero_le _, Nat.zero_le _⟩) hh_27.1 (fun q _ h => h) (fun q h => h) (fun r_32 u_31 t_31 H_31 locs_31 ht_31 hvm_31 hr_32 hb_31 hz_31 hk_31 hS_31 => ?_)
          rw [ht_31] at hb_31
          obtain ⟨hb_311, hb_312, hb_313, hb_314, hb_315⟩ := hb_31
          have hh_31 : jSt (dC, dI) B base G0 G0 EX13_stands s.heap 0 0 [(r0, 15, 47, .ref writtenName_28), (r0, 15, 49, .int pv), (r0, 15, 48, .ref zm), (r0, 15, 0, .ref zs), (r0, 15, 1, .ref zn), (r0, 15, 2, .ref za), (r0, 15, 3, .ref zb), (r0, 15, 4, .ref zc), (r0, 15, 14, .ref zy)] [(zm, 164, 100, ca 1, fm), (zs, 150, 120000, ca 1, C.s), (zn, 151, 120000, ca 1, C.n), (za, 152, 120000, ca 1, C.a), (zb, 153, 120000, ca 1, C.b), (zc, 154, 120000, ca 1, C.c), (zy, 165, 16, ca 1, C.y)] [] H_31 locs_31 := ((hh_27.call hb_311 hb_312 hb_313 hb_314 hS_31 rfl (L1 := [(r0, 15, 47, .ref writtenName_28), (r0, 15, 49, .int pv), (r0, 15, 48, .ref zm), (r0, 15, 0, .ref zs), (r0, 15, 1, .ref zn), (r0, 15, 2, .ref za), (r0, 15, 3, .ref zb), (r0, 15, 4, .ref zc), (r0, 15, 14, .ref zy)]) [0, 1, 2, 3, 4, 5, 6, 7, 8] rfl rfl (M1 := [(zm, 164, 100, ca 1, fm), (zs, 150, 120000, ca 1, C.s), (zn, 151, 120000, ca 1, C.n), (za, 152, 120000, ca 1, C.a), (zb, 153, 120000, ca 1, C.b), (zc, 154, 120000, ca 1, C.c), (zy, 165, 16, ca 1, C.y)]) [0, 1, 2, 3, 4, 5, 6] rfl rfl (I1 := []) [] rfl rfl).more hb_315)
          clear hh_27 ht_31 hvm_31 hz_31 hk_31 hS_31 hb_311 hb_312 hb_313 hb_314 hb_315
          obtain ⟨hr_32b, hr_32p⟩ := hr_32
          have hr_32' := jb_01 hr_32b
          refine lv_if_eq (tgt := 130) hx hb dX13_stands_125 (by decide) (fun c_33 => ?_) (fun c_33 => ?_)
          · skip
            have c_33' : r_32.toInt = 0 := jb_eq (rfl) ((by decide)) c_33
            exact C130  _ _ (hh_31.sub (L1 := [(r0, 15, 49, .int pv), (r0, 15, 48, .ref zm), (r0, 15, 0, .ref zs), (r0, 15, 1, .ref zn), (r0, 15, 2, .ref za), (r0, 15, 3, .ref zb), (r0, 15, 4, .ref zc), (r0, 15, 14, .ref zy)]) [1, 2, 3, 4, 5, 6, 7, 8] rfl (M1 := [(zm, 164, 100, ca 1, fm), (zs, 150, 120000, ca 1, C.s), (zn, 151, 120000, ca 1, C.n), (za, 152, 120000, ca 1, C.a), (zb, 153, 120000, ca 1, C.b), (zc, 154, 120000, ca 1, C.c), (zy, 165, 16, ca 1, C.y)]) [0, 1, 2, 3, 4, 5, 6] rfl (I1 := []) [] rfl) (trivial) _ (lv_sub hl [1, 2, 3, 4, 5, 6] rfl)
          · skip
            have c_33' : r_32.toInt ≠ 0 := jb_eq_n (rfl) ((by decide)) c_33
            refine lv_iconst (v := 1) hx hb dX13_stands_128 (by decide) ?_
            rw [hQ]
            exact W.zret (v := 1) hx hb hr (jb_nz (Or.inr rfl)) (fun t ht hW => ⟨⟨1, (), rfl, ⟨(Or.inr rfl), by first | omega | rfl | assumption | decide | exact Or.inl rfl | exact Or.inr rfl | (simp only; omega)⟩, hh_31.rt (M1 := []) [] rfl ht⟩, by rw [ht]; try exact hh_31.1.1, fun q h9 hq => by rw [ht]; try exact hh_31.1.2.1 q h9 hq⟩) hh_31.1.2.2 dX13_stands_129
    refine lv_icmp_ne (tgt := 72) hx hb dX13_stands_50 (by decide) (fun c_34 => ?_) (fun c_34 => ?_)
    · skip
      have c_34' : z_1.toInt ≠ 9 := jb_ne (rfl) ((by decide)) c_34
      exact C72  _ _ hh_2 (trivial) _ (lv_sub hl [0, 1, 2, 3, 4, 5] rfl)
    · skip
      have c_34' : z_1.toInt = 9 := jb_ne_n (rfl) ((by decide)) c_34
      have n7 := g7 (by omega)
      refine lv_aload_n hx hb dX13_stands_53 rfl (lv_at hl 0 rfl) ?_
      refine lv_iload_n hx hb dX13_stands_54 rfl (lv_at hl 3 rfl) ?_
      refine lv_iload hx hb dX13_stands_55 (lv_at hl 4 rfl) ?_
      refine lv_aload_n hx hb dX13_stands_57 rfl (lv_at hl 0 rfl) ?_
      refine j7_read hx hb hown hK (C := RX13) (T := TX13) (N := 50) rfl hly_15_1 hlk_16 (hh_2.at 3 rfl) dX13_stands_58 ?_
      refine lv_iload_n hx hb dX13_stands_61 rfl (lv_at hl 1 rfl) ?_
      refine j7_ialdM hx hb hK hh_2 hB151 1 rfl (by decide) hg_zn (x := a1.toInt) (rfl) (by omega) (j := 2) rfl dX13_stands_62 (fun z_35 ez_35 (hz_35 : True) => ?_)
      have hqz_35 : z_35.toInt = jSo C.n (a1.toInt) := by unfold jSo; rw [ez_35]
      refine lv_iconst (v := 0) hx hb dX13_stands_63 (by decide) ?_
      refine va_calli (A0 := jA base) (H0 := s.heap) (va_runV (As := [.int a3, .int a4, .int z_35, .int 0]) (rest := []) ⟨hx, hb, hml, hown, hts⟩ (uX13_areAlikeK l dC dI ca base B hB hAp hB15 hB155 hB156 hB166 G0 H_2 r0 a3 a4 z_35 0) (cwV 4 hts (jgV (jWr_72 _ (List.mem_of_getElem? (i := 4) rfl)) (jWr_72 _ (List.mem_of_getElem? (i := 5) rfl)) (jWr_72 _ (List.mem_of_getElem? (i := 6) rfl)) (jWr_12 _ (List.mem_of_getElem? (i := 12) rfl)) (jWr_72 _ (List.mem_of_getElem? (i := 7) rfl))) rfl rfl rfl (by decide +kernel) ⟨by rw [← hR]; show (0) + 1 ≤ d + 6; omega, by rw [← hR]; show 8 + (9 + 11) + (0) ≤ 60 * d + 300; omega⟩) ⟨fun a U g mk q => by obtain ⟨q0, q1, q2, qK, q10, q11, q12⟩ := q; exact ⟨q0, q1, q2, jG.calling g mk a qK, q10, q11, q12⟩, hh_2.recv (C := RX13) (T := TX13) (N := 50) hB15 rfl (by decide) hg_r0 hK, fun U hU hW => ⟨rfl, hU, hh_2.2.1, hG.step hW hU hh_2.1, hg_r0, jP.nil, by first | omega | (refine ⟨?_, ?_, ?_, ?_, ?_, ?_, ?_, ?_⟩ <;> (first | omega | rfl | assumption | decide | exact Or.inl rfl | exact Or.inr rfl | (simp only; omega)))⟩⟩ rfl rfl hl.1 rfl (lv_room (Nat.le_of_ble_eq_true rfl)) dX13_stands_64 ⟨Nat.zero_le _, Nat.zero_le _⟩) hh_2.1 (fun q _ h => h) (fun q h => h) (fun r_37 u_36 t_36 H_36 locs_36 ht_36 hvm_36 hr_37 hb_36 hz_36 hk_36 hS_36 => ?_)
      rw [ht_36] at hb_36
      obtain ⟨hb_361, hb_362, hb_363, hb_364, hb_365⟩ := hb_36
      have hh_36 : jSt (dC, dI) B base G0 G0 EX13_stands s.heap 0 0 [(r0, 15, 49, .int pv), (r0, 15, 48, .ref zm), (r0, 15, 0, .ref zs), (r0, 15, 1, .ref zn), (r0, 15, 2, .ref za), (r0, 15, 3, .ref zb), (r0, 15, 4, .ref zc), (r0, 15, 14, .ref zy)] [(zm, 164, 100, ca 1, fm), (zs, 150, 120000, ca 1, C.s), (zn, 151, 120000, ca 1, C.n), (za, 152, 120000, ca 1, C.a), (zb, 153, 120000, ca 1, C.b), (zc, 154, 120000, ca 1, C.c), (zy, 165, 16, ca 1, C.y)] [] H_36 locs_36 := ((hh_2.call hb_361 hb_362 hb_363 hb_364 hS_36 rfl (L1 := [(r0, 15, 49, .int pv), (r0, 15, 48, .ref zm), (r0, 15, 0, .ref zs), (r0, 15, 1, .ref zn), (r0, 15, 2, .ref za), (r0, 15, 3, .ref zb), (r0, 15, 4, .ref zc), (r0, 15, 14, .ref zy)]) [0, 1, 2, 3, 4, 5, 6, 7] rfl rfl (M1 := [(zm, 164, 100, ca 1, fm), (zs, 150, 120000, ca 1, C.s), (zn, 151, 120000, ca 1, C.n), (za, 152, 120000, ca 1, C.a), (zb, 153, 120000, ca 1, C.b), (zc, 154, 120000, ca 1, C.c), (zy, 165, 16, ca 1, C.y)]) [0, 1, 2, 3, 4, 5, 6] rfl rfl (I1 := []) [] rfl rfl).more hb_365)
      clear hh_2 ht_36 hvm_36 hz_36 hk_36 hS_36 hb_361 hb_362 hb_363 hb_364 hb_365
      obtain ⟨hr_37b, hr_37p⟩ := hr_37
      have hr_37' := jb_01 hr_37b
      refine lv_if_eq (tgt := 72) hx hb dX13_stands_67 (by decide) (fun c_38 => ?_) (fun c_38 => ?_)
      · skip
        have c_38' : r_37.toInt = 0 := jb_eq (rfl) ((by decide)) c_38
        exact C72  _ _ hh_36 (trivial) _ (lv_sub hl [0, 1, 2, 3, 4, 5] rfl)
      · skip
        have c_38' : r_37.toInt ≠ 0 := jb_eq_n (rfl) ((by decide)) c_38
        refine lv_iconst (v := 1) hx hb dX13_stands_70 (by decide) ?_
        rw [hQ]
        exact W.zret (v := 1) hx hb hr (jb_nz (Or.inr rfl)) (fun t ht hW => ⟨⟨1, (), rfl, ⟨(Or.inr rfl), by first | omega | rfl | assumption | decide | exact Or.inl rfl | exact Or.inr rfl | (simp only; omega)⟩, hh_36.rt (M1 := []) [] rfl ht⟩, by rw [ht]; try exact hh_36.1.1, fun q h9 hq => by rw [ht]; try exact hh_36.1.2.1 q h9 hq⟩) hh_36.1.2.2 dX13_stands_71
  have C22 : ∀ (H_39 : Heap) (locs_39 : List Loc), jSt (dC, dI) B base G0 G0 EX13_stands s.heap 0 0 [(r0, 15, 49, .int pv), (r0, 15, 48, .ref zm), (r0, 15, 0, .ref zs), (r0, 15, 1, .ref zn), (r0, 15, 2, .ref za), (r0, 15, 3, .ref zb), (r0, 15, 4, .ref zc), (r0, 15, 14, .ref zy)] [(zm, 164, 100, ca 1, fm), (zs, 150, 120000, ca 1, C.s), (zn, 151, 120000, ca 1, C.n), (za, 152, 120000, ca 1, C.a), (zb, 153, 120000, ca 1, C.b), (zc, 154, 120000, ca 1, C.c), (zy, 165, 16, ca 1, C.y)] [] H_39 locs_39 → (7 ≤ jSo C.s a1.toInt ∧ jSo C.s a1.toInt ≤ 8) → ∀ ls : Array Slot, lv_has ls 8 [(0, .ref r0), (1, .int a1), (2, .int a2), (3, .int a3), (4, .int a4), (5, .int z_1)] → W p l e R s m ([.ref r0, .int a1, .int a2, .int a3, .int a4] : List Value).toArray below meth c H_39 locs_39 0 0 Q (F0 m 22 ls []) := by
    intro  H_39 locs_39 hh_39  hi_39 ls hl
    obtain ⟨hi_39_0, hi_39_1⟩ := hi_39
    have n5 := g5 (by omega)
    refine lv_aload_n hx hb dX13_stands_22 rfl (lv_at hl 0 rfl) ?_
    refine lv_iload_n hx hb dX13_stands_23 rfl (lv_at hl 3 rfl) ?_
    refine lv_iload hx hb dX13_stands_24 (lv_at hl 4 rfl) ?_
    refine lv_aload_n hx hb dX13_stands_26 rfl (lv_at hl 0 rfl) ?_
    obtain ⟨v_40, hv_40, hh_41⟩ := hh_39.pin (C := RX13) (T := TX13) (N := 50) hB15 rfl (by decide) hg_r0 (i := 12) (by decide) rfl
    clear hh_39
    obtain ⟨symbol_42, rfl, hg_symbol_42⟩ := hv_40
    refine j7_read hx hb hown hK (C := RX13) (T := TX13) (N := 50) rfl hly_15_12 hlk_37 (hh_41.at 0 rfl) dX13_stands_27 ?_
    refine lv_aload_n hx hb dX13_stands_30 rfl (lv_at hl 0 rfl) ?_
    refine j7_read hx hb hown hK (C := RX13) (T := TX13) (N := 50) rfl hly_15_1 hlk_16 (hh_41.at 4 rfl) dX13_stands_31 ?_
    refine lv_iload_n hx hb dX13_stands_34 rfl (lv_at hl 1 rfl) ?_
    refine j7_ialdM hx hb hK hh_41 hB151 1 rfl (by decide) hg_zn (x := a1.toInt) (rfl) (by omega) (j := 2) rfl dX13_stands_35 (fun z_43 ez_43 (hz_43 : True) => ?_)
    have hqz_43 : z_43.toInt = jSo C.n (a1.toInt) := by unfold jSo; rw [ez_43]
    refine j7_iald hx hb hK hh_41 hB163 1 rfl (by decide) hg_symbol_42 (x := z_43.toInt) (rfl) (by omega) dX13_stands_36 (fun z_44 (hz_44 : 0 ≤ z_44.toInt ∧ z_44.toInt ≤ 1599) => ?_)
    refine lv_iconst (v := 0) hx hb dX13_stands_37 (by decide) ?_
    refine va_calli (A0 := jA base) (H0 := s.heap) (va_runV (As := [.int a3, .int a4, .int z_44, .int 0]) (rest := []) ⟨hx, hb, hml, hown, hts⟩ (uX13_areAlikeK l dC dI ca base B hB hAp hB15 hB155 hB156 hB166 G0 H_39 r0 a3 a4 z_44 0) (cwV 4 hts (jgV (jWr_72 _ (List.mem_of_getElem? (i := 4) rfl)) (jWr_72 _ (List.mem_of_getElem? (i := 5) rfl)) (jWr_72 _ (List.mem_of_getElem? (i := 6) rfl)) (jWr_12 _ (List.mem_of_getElem? (i := 12) rfl)) (jWr_72 _ (List.mem_of_getElem? (i := 7) rfl))) rfl rfl rfl (by decide +kernel) ⟨by rw [← hR]; show (0) + 1 ≤ d + 6; omega, by rw [← hR]; show 8 + (9 + 11) + (0) ≤ 60 * d + 300; omega⟩) ⟨fun a U g mk q => by obtain ⟨q0, q1, q2, qK, q10, q11, q12⟩ := q; exact ⟨q0, q1, q2, jG.calling g mk a qK, q10, q11, q12⟩, hh_41.recv (C := RX13) (T := TX13) (N := 50) hB15 rfl (by decide) hg_r0 hK, fun U hU hW => ⟨rfl, hU, hh_41.2.1, hG.step hW hU hh_41.1, hg_r0, jP.nil, by first | omega | (refine ⟨?_, ?_, ?_, ?_, ?_, ?_, ?_, ?_⟩ <;> (first | omega | rfl | assumption | decide | exact Or.inl rfl | exact Or.inr rfl | (simp only; omega)))⟩⟩ rfl rfl hl.1 rfl (lv_room (Nat.le_of_ble_eq_true rfl)) dX13_stands_38 ⟨Nat.zero_le _, Nat.zero_le _⟩) hh_41.1 (fun q _ h => h) (fun q h => h) (fun r_46 u_45 t_45 H_45 locs_45 ht_45 hvm_45 hr_46 hb_45 hz_45 hk_45 hS_45 => ?_)
    rw [ht_45] at hb_45
    obtain ⟨hb_451, hb_452, hb_453, hb_454, hb_455⟩ := hb_45
    have hh_45 : jSt (dC, dI) B base G0 G0 EX13_stands s.heap 0 0 [(r0, 15, 12, .ref symbol_42), (r0, 15, 49, .int pv), (r0, 15, 48, .ref zm), (r0, 15, 0, .ref zs), (r0, 15, 1, .ref zn), (r0, 15, 2, .ref za), (r0, 15, 3, .ref zb), (r0, 15, 4, .ref zc), (r0, 15, 14, .ref zy)] [(zm, 164, 100, ca 1, fm), (zs, 150, 120000, ca 1, C.s), (zn, 151, 120000, ca 1, C.n), (za, 152, 120000, ca 1, C.a), (zb, 153, 120000, ca 1, C.b), (zc, 154, 120000, ca 1, C.c), (zy, 165, 16, ca 1, C.y)] [] H_45 locs_45 := ((hh_41.call hb_451 hb_452 hb_453 hb_454 hS_45 rfl (L1 := [(r0, 15, 12, .ref symbol_42), (r0, 15, 49, .int pv), (r0, 15, 48, .ref zm), (r0, 15, 0, .ref zs), (r0, 15, 1, .ref zn), (r0, 15, 2, .ref za), (r0, 15, 3, .ref zb), (r0, 15, 4, .ref zc), (r0, 15, 14, .ref zy)]) [0, 1, 2, 3, 4, 5, 6, 7, 8] rfl rfl (M1 := [(zm, 164, 100, ca 1, fm), (zs, 150, 120000, ca 1, C.s), (zn, 151, 120000, ca 1, C.n), (za, 152, 120000, ca 1, C.a), (zb, 153, 120000, ca 1, C.b), (zc, 154, 120000, ca 1, C.c), (zy, 165, 16, ca 1, C.y)]) [0, 1, 2, 3, 4, 5, 6] rfl rfl (I1 := []) [] rfl rfl).more hb_455)
    clear hh_41 ht_45 hvm_45 hz_45 hk_45 hS_45 hb_451 hb_452 hb_453 hb_454 hb_455
    obtain ⟨hr_46b, hr_46p⟩ := hr_46
    have hr_46' := jb_01 hr_46b
    refine lv_if_eq (tgt := 46) hx hb dX13_stands_41 (by decide) (fun c_47 => ?_) (fun c_47 => ?_)
    · skip
      have c_47' : r_46.toInt = 0 := jb_eq (rfl) ((by decide)) c_47
      exact C46  _ _ (hh_45.sub (L1 := [(r0, 15, 49, .int pv), (r0, 15, 48, .ref zm), (r0, 15, 0, .ref zs), (r0, 15, 1, .ref zn), (r0, 15, 2, .ref za), (r0, 15, 3, .ref zb), (r0, 15, 4, .ref zc), (r0, 15, 14, .ref zy)]) [1, 2, 3, 4, 5, 6, 7, 8] rfl (M1 := [(zm, 164, 100, ca 1, fm), (zs, 150, 120000, ca 1, C.s), (zn, 151, 120000, ca 1, C.n), (za, 152, 120000, ca 1, C.a), (zb, 153, 120000, ca 1, C.b), (zc, 154, 120000, ca 1, C.c), (zy, 165, 16, ca 1, C.y)]) [0, 1, 2, 3, 4, 5, 6] rfl (I1 := []) [] rfl) (trivial) _ (lv_sub hl [0, 1, 2, 3, 4, 5] rfl)
    · skip
      have c_47' : r_46.toInt ≠ 0 := jb_eq_n (rfl) ((by decide)) c_47
      refine lv_iconst (v := 1) hx hb dX13_stands_44 (by decide) ?_
      rw [hQ]
      exact W.zret (v := 1) hx hb hr (jb_nz (Or.inr rfl)) (fun t ht hW => ⟨⟨1, (), rfl, ⟨(Or.inr rfl), by first | omega | rfl | assumption | decide | exact Or.inl rfl | exact Or.inr rfl | (simp only; omega)⟩, hh_45.rt (M1 := []) [] rfl ht⟩, by rw [ht]; try exact hh_45.1.1, fun q h9 hq => by rw [ht]; try exact hh_45.1.2.1 q h9 hq⟩) hh_45.1.2.2 dX13_stands_45
  refine lv_icmp_eq (tgt := 22) hx hb dX13_stands_12 (by decide) (fun c_48 => ?_) (fun c_48 => ?_)
  · skip
    have c_48' : z_1.toInt = 7 := jb_eq (rfl) ((by decide)) c_48
    exact C22  _ _ hh (by first | omega | (refine ⟨?_, ?_⟩ <;> (first | omega | rfl | assumption | decide | exact Or.inl rfl | exact Or.inr rfl | (simp only; omega)))) _ (lv_sub hl [1, 2, 3, 4, 5, 0] rfl)
  · skip
    have c_48' : z_1.toInt ≠ 7 := jb_eq_n (rfl) ((by decide)) c_48
    refine lv_iload hx hb dX13_stands_15 (lv_at hl 0 rfl) ?_
    refine lv_bipush (v := 8) hx hb dX13_stands_17 (by decide) ?_
    refine lv_icmp_ne (tgt := 46) hx hb dX13_stands_19 (by decide) (fun c_49 => ?_) (fun c_49 => ?_)
    · skip
      have c_49' : z_1.toInt ≠ 8 := jb_ne (rfl) ((by decide)) c_49
      exact C46  _ _ hh (trivial) _ (lv_sub hl [1, 2, 3, 4, 5, 0] rfl)
    · skip
      have c_49' : z_1.toInt = 8 := jb_ne_n (rfl) ((by decide)) c_49
      exact C22  _ _ hh (by first | omega | (refine ⟨?_, ?_⟩ <;> (first | omega | rfl | assumption | decide | exact Or.inl rfl | exact Or.inr rfl | (simp only; omega)))) _ (lv_sub hl [1, 2, 3, 4, 5, 0] rfl)
theorem aX13_stands (l : Launch) (dC : Nat → ClassId) (dI : Nat → Nat → Nat) (ca : Nat → ClassId) (base : Nat) (B : jF) (hB : jBok B) (hAp : jAp (dC, dI)) (hB15 : ∀ n G a H, B 15 n G a H ↔ jOb (dC, dI) 15 50 (F15 n G) a H) (hB150 : ∀ n G a H, B 150 n G a H ↔ jAr (dC, dI) (ca 1) (fun j z => True) n a H) (hB151 : ∀ n G a H, B 151 n G a H ↔ jAr (dC, dI) (ca 1) (fun j z => True) n a H) (hB152 : ∀ n G a H, B 152 n G a H ↔ jAr (dC, dI) (ca 1) (fun j z => True) n a H) (hB153 : ∀ n G a H, B 153 n G a H ↔ jAr (dC, dI) (ca 1) (fun j z => True) n a H) (hB154 : ∀ n G a H, B 154 n G a H ↔ jAr (dC, dI) (ca 1) (fun j z => True) n a H) (hB155 : ∀ n G a H, B 155 n G a H ↔ jAr (dC, dI) (ca 1) (fun j z => 0 ≤ z.toInt ∧ z.toInt ≤ 11990) n a H) (hB156 : ∀ n G a H, B 156 n G a H ↔ jAr (dC, dI) (ca 1) (fun j z => 0 ≤ z.toInt ∧ z.toInt ≤ 10) n a H) (hB163 : ∀ n G a H, B 163 n G a H ↔ jAr (dC, dI) (ca 1) (fun j z => 0 ≤ z.toInt ∧ z.toInt ≤ 1599) n a H) (hB164 : ∀ n G a H, B 164 n G a H ↔ jAr (dC, dI) (ca 1) (fun j z => 0 ≤ z.toInt ∧ z.toInt ≤ 100000) n a H) (hB165 : ∀ n G a H, B 165 n G a H ↔ jAr (dC, dI) (ca 1) (fun j z => 0 ≤ z.toInt ∧ z.toInt ≤ 3) n a H) (hB166 : ∀ n G a H, B 166 n G a H ↔ jAr (dC, dI) (ca 1) (fun j z => True) n a H) : ∀ ef, qX13_stands l dC dI ca base B ef := fun ef => Nat.strongRecOn ef (fun e ih => fun G0 H0 r0 a1 a2 a3 a4 pv zm zs zn za zb zc zy M fm C => uX13_stands l dC dI ca base B hB hAp hB15 hB150 hB151 hB152 hB153 hB154 hB155 hB156 hB163 hB164 hB165 hB166 e ih G0 H0 r0 a1 a2 a3 a4 pv zm zs zn za zb zc zy M fm C)
end
