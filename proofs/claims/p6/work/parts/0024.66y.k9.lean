section
def EX13_nameOfv9 : List (Nat × Nat) := [(15, 7), (15, 10), (155, 0), (156, 0), (166, 0)]
set_option maxHeartbeats 4000000 in
set_option maxRecDepth 20000 in
theorem uX13_nameOfv9 (l : Launch) (dC : Nat → ClassId) (dI : Nat → Nat → Nat) (ca : Nat → ClassId) (base : Nat) (B : jF) (hB : jBok B) (hAp : jAp (dC, dI)) (hB15 : ∀ n G a H, B 15 n G a H ↔ jOb (dC, dI) 15 50 (F15 n G) a H) (hB155 : ∀ n G a H, B 155 n G a H ↔ jAr (dC, dI) (ca 1) (fun j z => 0 ≤ z.toInt ∧ z.toInt ≤ 11990) n a H) (hB156 : ∀ n G a H, B 156 n G a H ↔ jAr (dC, dI) (ca 1) (fun j z => 0 ≤ z.toInt ∧ z.toInt ≤ 10) n a H) (hB166 : ∀ n G a H, B 166 n G a H ↔ jAr (dC, dI) (ca 1) (fun j z => True) n a H) (hB194 : ∀ n G a H, B 194 n G a H ↔ jAr (dC, dI) (ca 1) (fun j z => True) n a H) (G0 : jT) (H0 : Heap) (r0 : Nat) (r1 : Nat) (a2 : Int32) (a3 : Int32) (n1 : Nat) (pc : Int32) (ps : Int32) : Met l yX13_nameOf (jw yX13_nameOf cX13_nameOf 7 (some .int)) ({ frames := 0, cells := 0, slots := 0, locals := 0 }) (va_Pc [.ref r0, .ref r1, .int a2, .int a3] (fun U => U.heap = H0 ∧ jX B base G0 [] H0 ∧ jG dC dI ca base U ∧ G0 r1 = some (194, n1) ∧ G0 r0 = some (15, 0) ∧ jP (dC, dI) G0 H0 [(r0, 15, 10, .int pc), (r0, 15, 7, .int ps)] ∧ 0 ≤ a2.toInt ∧ a2.toInt ≤ a3.toInt ∧ a3.toInt ≤ n1 ∧ n1 ≤ 200000 ∧ a3.toInt - a2.toInt ≤ 10 ∧ 0 ≤ pc.toInt ∧ pc.toInt ≤ 1599 ∧ 0 ≤ ps.toInt ∧ ps.toInt ≤ 11990)) (va_Qi (S := Int32 × Int32) (fun r u => (0 ≤ r.toInt ∧ r.toInt < u.1.toInt ∧ pc.toInt ≤ u.1.toInt ∧ u.1.toInt ≤ pc.toInt + 1 ∧ ps.toInt ≤ u.2.toInt ∧ u.2.toInt ≤ ps.toInt + (a3.toInt - a2.toInt))) (fun u t => jRt (dC, dI) B base G0 EX13_nameOfv9 H0 [(r0, 15, 10, .int u.1), (r0, 15, 7, .int u.2)] t.heap) (jA base)) 0 0 (jA base) := by
  refine Met.ofW (cc := cX13_nameOf) (maxL := 7) (ret := (some .int)) (by decide) rfl ?_
  intro p e s m args below meth c s₁ Bd hml hv
  obtain ⟨rfl, hH0, hX, hG, hg_r1, hg_r0, hP0, hp0, hp1, hp2, hp3, hp4, hp5, hp6, hp7, hp8⟩ := hv
  have hK := hG.1
  have hx := Bd.exec
  have hb := Bd.bytes
  have hr := Bd.returns
  have hts := atoms_spec (ws := (jw yX13_nameOf cX13_nameOf 7 (some .int))) Bd.pre
  have htw : ∀ w ∈ jWl, w.before _ s = true := fun w h => hts w (List.mem_cons_of_mem _ h)
  have hown : s.vm.findClass RX13 = some m.cls := findClass_of_methodNamed Bd.named
  have hlocks := Bd.notSynchronized
  obtain ⟨Q, hQ⟩ : ∃ Q, Q = MQ below (va_Qi (S := Int32 × Int32) (fun r u => (0 ≤ r.toInt ∧ r.toInt < u.1.toInt ∧ pc.toInt ≤ u.1.toInt ∧ u.1.toInt ≤ pc.toInt + 1 ∧ ps.toInt ≤ u.2.toInt ∧ u.2.toInt ≤ ps.toInt + (a3.toInt - a2.toInt))) (fun u t => jRt (dC, dI) B base G0 EX13_nameOfv9 H0 [(r0, 15, 10, .int u.1), (r0, 15, 7, .int u.2)] t.heap) (jA base)) ([.ref r0, .ref r1, .int a2, .int a3] : List Value).toArray s 0 0 (jA base) := ⟨_, rfl⟩
  rw [← hQ]
  have hl := lv_entry ([.ref r0, .ref r1, .int a2, .int a3]) (n := 7) (Nat.le_of_ble_eq_true rfl)
  rw [lg_entry_eq]
  generalize (lg_sl ([.ref r0, .ref r1, .int a2, .int a3]) ++ List.replicate (7 - (lg_sl ([.ref r0, .ref r1, .int a2, .int a3])).length) Slot.unset).toArray = ls at hl ⊢
  have hl : lv_has ls 7 [(0, .ref r0), (1, .ref r1), (2, .int a2), (3, .int a3)] := hl
  generalize hR : (headSpec (jw yX13_nameOf cX13_nameOf 7 (some .int)) ({ frames := 0, cells := 0, slots := 0, locals := 0 })).room = R
  subst hH0
  have hh : jSt (dC, dI) B base G0 G0 EX13_nameOfv9 s.heap 0 0 [(r0, 15, 10, .int pc), (r0, 15, 7, .int ps)] [] [] s.heap [] := jSt.start hX hP0 jMc.nil jIs.nil
  clear hX hP0
  have hk0 : (0 : Int32).toInt = 0 := by decide
  have hk1 : (1 : Int32).toInt = 1 := by decide
  have hly_15_6 := htw (u_lay RX13 TX13 6) (jWc_wsX130 _ (u_in_lay (by decide)))
  have hly_15_7 := htw (u_lay RX13 TX13 7) (jWc_wsX130 _ (u_in_lay (by decide)))
  have hly_15_8 := htw (u_lay RX13 TX13 8) (jWc_wsX130 _ (u_in_lay (by decide)))
  have hly_15_9 := htw (u_lay RX13 TX13 9) (jWc_wsX130 _ (u_in_lay (by decide)))
  have hly_15_10 := htw (u_lay RX13 TX13 10) (jWc_wsX130 _ (u_in_lay (by decide)))
  have hlk_103 := (htw (.fieldLink RX13 103 "ProofServerModel$Kernel" "nameCount" "I") (jWr_59 _ (List.mem_of_getElem? (i := 15) rfl)))
  have hlk_34 := (htw (.fieldLink RX13 34 "ProofServerModel$Kernel" "nameLength" "[I") (jWr_14 _ (List.mem_of_getElem? (i := 16) rfl)))
  have hlk_28 := (htw (.fieldLink RX13 28 "ProofServerModel$Kernel" "signs" "[I") (jWr_14 _ (List.mem_of_getElem? (i := 14) rfl)))
  have hlk_31 := (htw (.fieldLink RX13 31 "ProofServerModel$Kernel" "nameAt" "[I") (jWr_14 _ (List.mem_of_getElem? (i := 15) rfl)))
  have hlk_106 := (htw (.fieldLink RX13 106 "ProofServerModel$Kernel" "signCount" "I") (jWr_59 _ (List.mem_of_getElem? (i := 16) rfl)))
  have hrg_a2 := jb_rng a2
  have hrg_a3 := jb_rng a3
  refine lv_iconst (v := 0) hx hb dX13_nameOf_0 (by decide) ?_
  refine lv_istore (lv' := [(4, .int 0), (0, .ref r0), (1, .ref r1), (2, .int a2), (3, .int a3)]) hx hb dX13_nameOf_1 hl (by decide) rfl (fun ls hl => ?_)
  obtain ⟨v_1, hv_1, hh_2⟩ := hh.pin (C := RX13) (T := TX13) (N := 50) hB15 rfl (by decide) hg_r0 (i := 9) (by decide) rfl
  obtain ⟨nameLength_3, rfl, hg_nameLength_3⟩ := hv_1
  obtain ⟨f_nameLength_4, hh_4⟩ := hh_2.cpin hB156 (by decide) (by decide) hg_nameLength_3
  clear hh_2
  have L3 : ∀ (N : Nat) (v4_5 : Int32) (H_5 : Heap) (locs_5 : List Loc), jSt (dC, dI) B base G0 G0 EX13_nameOfv9 s.heap 0 0 [(r0, 15, 9, .ref nameLength_3), (r0, 15, 10, .int pc), (r0, 15, 7, .int ps)] [(nameLength_3, 156, 1600, ca 1, f_nameLength_4)] [] H_5 locs_5 → (0 ≤ v4_5.toInt ∧ v4_5.toInt ≤ pc.toInt) → (pc.toInt - v4_5.toInt : Int) < N → ∀ ls : Array Slot, lv_has ls 7 [(0, .ref r0), (1, .ref r1), (2, .int a2), (3, .int a3), (4, .int v4_5)] → W p l e R s m ([.ref r0, .ref r1, .int a2, .int a3] : List Value).toArray below meth c H_5 locs_5 0 0 Q (F0 m 3 ls []) := by
    intro N
    induction N with
    | zero => intro v4_5 H_5 locs_5 hh_5  hi_5 hm; exact absurd hm (by omega)
    | succ N L3 =>
      intro v4_5 H_5 locs_5 hh_5  hi_5 hm_5 ls hl
      obtain ⟨hi_5_0, hi_5_1⟩ := hi_5
      refine lv_iload hx hb dX13_nameOf_3 (lv_at hl 4 rfl) ?_
      refine lv_aload_n hx hb dX13_nameOf_5 rfl (lv_at hl 0 rfl) ?_
      refine j7_read hx hb hown hK (C := RX13) (T := TX13) (N := 50) rfl hly_15_10 hlk_103 (hh_5.at 1 rfl) dX13_nameOf_6 ?_
      refine lv_icmp_ge (tgt := 103) hx hb dX13_nameOf_9 (by decide) (fun c_6 => ?_) (fun c_6 => ?_)
      · skip
        have c_6' : v4_5.toInt ≥ pc.toInt := jb_ge (rfl) (rfl) c_6
        refine lv_aload_n hx hb dX13_nameOf_103 rfl (lv_at hl 0 rfl) ?_
        obtain ⟨v_7, hv_7, hh_8⟩ := hh_5.pin (C := RX13) (T := TX13) (N := 50) hB15 rfl (by decide) hg_r0 (i := 8) (by decide) rfl
        clear hh_5
        obtain ⟨nameAt_9, rfl, hg_nameAt_9⟩ := hv_7
        refine j7_read hx hb hown hK (C := RX13) (T := TX13) (N := 50) rfl hly_15_8 hlk_31 (hh_8.at 0 rfl) dX13_nameOf_104 ?_
        refine lv_aload_n hx hb dX13_nameOf_107 rfl (lv_at hl 0 rfl) ?_
        refine j7_read hx hb hown hK (C := RX13) (T := TX13) (N := 50) rfl hly_15_10 hlk_103 (hh_8.at 2 rfl) dX13_nameOf_108 ?_
        refine lv_aload_n hx hb dX13_nameOf_111 rfl (lv_at hl 0 rfl) ?_
        refine j7_read hx hb hown hK (C := RX13) (T := TX13) (N := 50) rfl hly_15_7 hlk_106 (hh_8.at 3 rfl) dX13_nameOf_112 ?_
        refine j7_iast hx hb hK hh_8 hB hB155 1 rfl (by decide) (by decide) rfl rfl rfl hg_nameAt_9 (x := pc.toInt) (rfl) (by omega) (by first | omega | (refine ⟨?_, ?_⟩ <;> (first | omega | rfl | assumption | decide | exact Or.inl rfl | exact Or.inr rfl | (simp only; omega)))) dX13_nameOf_115 (fun H_10 locs_10 hh_10 => ?_)
        clear hh_8
        refine lv_aload_n hx hb dX13_nameOf_116 rfl (lv_at hl 0 rfl) ?_
        refine j7_read hx hb hown hK (C := RX13) (T := TX13) (N := 50) rfl hly_15_9 hlk_34 (hh_10.at 1 rfl) dX13_nameOf_117 ?_
        refine lv_aload_n hx hb dX13_nameOf_120 rfl (lv_at hl 0 rfl) ?_
        refine j7_read hx hb hown hK (C := RX13) (T := TX13) (N := 50) rfl hly_15_10 hlk_103 (hh_10.at 2 rfl) dX13_nameOf_121 ?_
        refine lv_iload_n hx hb dX13_nameOf_124 rfl (lv_at hl 3 rfl) ?_
        refine lv_iload_n hx hb dX13_nameOf_125 rfl (lv_at hl 2 rfl) ?_
        refine lv_isub hx hb dX13_nameOf_126 ?_
        refine lv_topi (fun z_11 ez_11 => ?_)
        have hz_11 : z_11.toInt = a3.toInt - a2.toInt := by rw [ez_11]; exact jb_isub2 (rfl) (rfl) (by omega)
        have hh_13 := hh_10.sub (L1 := [(r0, 15, 8, .ref nameAt_9), (r0, 15, 9, .ref nameLength_3), (r0, 15, 10, .int pc), (r0, 15, 7, .int ps)]) [0, 1, 2, 3] rfl (M1 := []) [] rfl (I1 := []) [] rfl
        clear hh_10
        refine j7_iast hx hb hK hh_13 hB hB156 1 rfl (by decide) (by decide) rfl rfl rfl hg_nameLength_3 (x := pc.toInt) (rfl) (by omega) (by first | omega | (refine ⟨?_, ?_⟩ <;> (first | omega | rfl | assumption | decide | exact Or.inl rfl | exact Or.inr rfl | (simp only; omega)))) dX13_nameOf_127 (fun H_12 locs_12 hh_12 => ?_)
        clear hh_13
        refine lv_iload_n hx hb dX13_nameOf_128 rfl (lv_at hl 2 rfl) ?_
        refine lv_istore (lv' := [(4, .int a2), (0, .ref r0), (1, .ref r1), (2, .int a2), (3, .int a3)]) hx hb dX13_nameOf_129 hl (by decide) rfl (fun ls hl => ?_)
        have L131 : ∀ (N : Nat) (v4_14 : Int32) (ws_14 : Int32) (H_14 : Heap) (locs_14 : List Loc), jSt (dC, dI) B base G0 G0 EX13_nameOfv9 s.heap 0 0 [(r0, 15, 7, .int ws_14), (r0, 15, 8, .ref nameAt_9), (r0, 15, 9, .ref nameLength_3), (r0, 15, 10, .int pc)] [] [] H_14 locs_14 → (a2.toInt ≤ v4_14.toInt ∧ v4_14.toInt ≤ a3.toInt ∧ ws_14.toInt = ps.toInt + (v4_14.toInt - a2.toInt)) → (a3.toInt - v4_14.toInt : Int) < N → ∀ ls : Array Slot, lv_has ls 7 [(0, .ref r0), (1, .ref r1), (2, .int a2), (3, .int a3), (4, .int v4_14)] → W p l e R s m ([.ref r0, .ref r1, .int a2, .int a3] : List Value).toArray below meth c H_14 locs_14 0 0 Q (F0 m 131 ls []) := by
          intro N
          induction N with
          | zero => intro v4_14 ws_14 H_14 locs_14 hh_14  hi_14 hm; exact absurd hm (by omega)
          | succ N L131 =>
            intro v4_14 ws_14 H_14 locs_14 hh_14  hi_14 hm_14 ls hl
            obtain ⟨hi_14_0, hi_14_1, hi_14_2⟩ := hi_14
            refine lv_iload hx hb dX13_nameOf_131 (lv_at hl 4 rfl) ?_
            refine lv_iload_n hx hb dX13_nameOf_133 rfl (lv_at hl 3 rfl) ?_
            refine lv_icmp_ge (tgt := 166) hx hb dX13_nameOf_134 (by decide) (fun c_15 => ?_) (fun c_15 => ?_)
            · skip
              have c_15' : v4_14.toInt ≥ a3.toInt := jb_ge (rfl) (rfl) c_15
              refine lv_aload_n hx hb dX13_nameOf_166 rfl (lv_at hl 0 rfl) ?_
              refine lv_dup hx hb dX13_nameOf_167 rfl ?_
              refine j7_read hx hb hown hK (C := RX13) (T := TX13) (N := 50) rfl hly_15_10 hlk_103 (hh_14.at 3 rfl) dX13_nameOf_168 ?_
              refine lv_iconst (v := 1) hx hb dX13_nameOf_171 (by decide) ?_
              refine lv_iadd hx hb dX13_nameOf_172 ?_
              refine lv_topi (fun z_16 ez_16 => ?_)
              have hz_16 : z_16.toInt = pc.toInt + 1 := by rw [ez_16]; exact jb_iadd2 (rfl) ((by decide)) (by omega)
              refine j7_put hx hb hown hK hh_14 hB hAp hB15 (C := RX13) (T := TX13) (N := 50) rfl (by decide) hg_r0 (i := 10) (by decide) hly_15_10 rfl hlk_103 rfl (ty := .int) (v := .int z_16) (by decide +kernel) rfl rfl (⟨_, rfl, by omega, by omega⟩) rfl (L1 := [(r0, 15, 7, .int ws_14), (r0, 15, 8, .ref nameAt_9), (r0, 15, 9, .ref nameLength_3)]) [0, 1, 2] rfl rfl rfl dX13_nameOf_173 (fun H_17 locs_17 hh_17 => ?_)
              clear hh_14
              refine lv_aload_n hx hb dX13_nameOf_176 rfl (lv_at hl 0 rfl) ?_
              refine j7_read hx hb hown hK (C := RX13) (T := TX13) (N := 50) rfl hly_15_10 hlk_103 (hh_17.at 0 rfl) dX13_nameOf_177 ?_
              refine lv_iconst (v := 1) hx hb dX13_nameOf_180 (by decide) ?_
              refine lv_isub hx hb dX13_nameOf_181 ?_
              refine lv_topi (fun z_18 ez_18 => ?_)
              have hz_18 : z_18.toInt = z_16.toInt - 1 := by rw [ez_18]; exact jb_isub2 (rfl) ((by decide)) (by omega)
              rw [hQ]
              exact W.iret (v := z_18) hx hb hr (fun t ht hW => ⟨⟨z_18, (z_16, ws_14), rfl, by first | omega | (refine ⟨?_, ?_, ?_, ?_, ?_, ?_⟩ <;> (first | omega | rfl | assumption | decide | exact Or.inl rfl | exact Or.inr rfl | (simp only; omega))), hh_17.rt (M1 := [(r0, 15, 10, .int z_16), (r0, 15, 7, .int ws_14)]) [0, 1] rfl ht⟩, by rw [ht]; try exact hh_17.1.1, fun q h9 hq => by rw [ht]; try exact hh_17.1.2.1 q h9 hq⟩) hh_17.1.2.2 dX13_nameOf_182
            · skip
              have c_15' : v4_14.toInt < a3.toInt := jb_ge_n (rfl) (rfl) c_15
              refine lv_aload_n hx hb dX13_nameOf_137 rfl (lv_at hl 0 rfl) ?_
              obtain ⟨v_19, hv_19, hh_20⟩ := hh_14.pin (C := RX13) (T := TX13) (N := 50) hB15 rfl (by decide) hg_r0 (i := 6) (by decide) rfl
              clear hh_14
              obtain ⟨signs_21, rfl, hg_signs_21⟩ := hv_19
              refine j7_read hx hb hown hK (C := RX13) (T := TX13) (N := 50) rfl hly_15_6 hlk_28 (hh_20.at 0 rfl) dX13_nameOf_138 ?_
              refine lv_aload_n hx hb dX13_nameOf_141 rfl (lv_at hl 0 rfl) ?_
              refine j7_read hx hb hown hK (C := RX13) (T := TX13) (N := 50) rfl hly_15_7 hlk_106 (hh_20.at 1 rfl) dX13_nameOf_142 ?_
              refine lv_aload_n hx hb dX13_nameOf_145 rfl (lv_at hl 1 rfl) ?_
              refine lv_iload hx hb dX13_nameOf_146 (lv_at hl 4 rfl) ?_
              refine j7_iald hx hb hK hh_20 hB194 1 rfl (by decide) hg_r1 (x := v4_14.toInt) (rfl) (by omega) dX13_nameOf_148 (fun z_22 (hz_22 : True) => ?_)
              refine j7_iast hx hb hK hh_20 hB hB166 1 rfl (by decide) (by decide) rfl rfl rfl hg_signs_21 (x := ws_14.toInt) (rfl) (by omega) (trivial) dX13_nameOf_149 (fun H_23 locs_23 hh_23 => ?_)
              clear hh_20
              refine lv_aload_n hx hb dX13_nameOf_150 rfl (lv_at hl 0 rfl) ?_
              refine lv_dup hx hb dX13_nameOf_151 rfl ?_
              refine j7_read hx hb hown hK (C := RX13) (T := TX13) (N := 50) rfl hly_15_7 hlk_106 (hh_23.at 1 rfl) dX13_nameOf_152 ?_
              refine lv_iconst (v := 1) hx hb dX13_nameOf_155 (by decide) ?_
              refine lv_iadd hx hb dX13_nameOf_156 ?_
              refine lv_topi (fun z_24 ez_24 => ?_)
              have hz_24 : z_24.toInt = ws_14.toInt + 1 := by rw [ez_24]; exact jb_iadd2 (rfl) ((by decide)) (by omega)
              refine j7_put hx hb hown hK hh_23 hB hAp hB15 (C := RX13) (T := TX13) (N := 50) rfl (by decide) hg_r0 (i := 7) (by decide) hly_15_7 rfl hlk_106 rfl (ty := .int) (v := .int z_24) (by decide +kernel) rfl rfl (⟨_, rfl, by omega, by omega⟩) rfl (L1 := [(r0, 15, 6, .ref signs_21), (r0, 15, 8, .ref nameAt_9), (r0, 15, 9, .ref nameLength_3), (r0, 15, 10, .int pc)]) [0, 2, 3, 4] rfl rfl rfl dX13_nameOf_157 (fun H_25 locs_25 hh_25 => ?_)
              clear hh_23
              obtain ⟨z_26, ez_26⟩ : ∃ y : Int32, y = v4_14 + 1 := ⟨_, rfl⟩
              refine lv_iinc (v := z_26) (lv' := [(4, .int z_26), (0, .ref r0), (1, .ref r1), (2, .int a2), (3, .int a3)]) hx hb dX13_nameOf_160 hl (k := 4) rfl (by rw [ez_26]; rfl) (by decide) rfl (fun ls hl => ?_)
              have hz_26 : z_26.toInt = v4_14.toInt + 1 := by rw [ez_26]; exact jb_iadd2 (rfl) (by decide) (by omega)
              refine lv_goto (tgt := 131) hx hb dX13_nameOf_163 (by decide) ?_
              exact L131 z_26 z_24 _ _ (hh_25.sub (L1 := [(r0, 15, 7, .int z_24), (r0, 15, 8, .ref nameAt_9), (r0, 15, 9, .ref nameLength_3), (r0, 15, 10, .int pc)]) [0, 2, 3, 4] rfl (M1 := []) [] rfl (I1 := []) [] rfl) (by first | omega | (refine ⟨?_, ?_, ?_⟩ <;> (first | omega | rfl | assumption | decide | exact Or.inl rfl | exact Or.inr rfl | (simp only; omega)))) (by omega) _ (lv_sub hl [1, 2, 3, 4, 0] rfl)
        exact L131 (a3.toInt - (a2 : Int32).toInt : Int).toNat.succ a2 ps _ _ (hh_12.sub (L1 := [(r0, 15, 7, .int ps), (r0, 15, 8, .ref nameAt_9), (r0, 15, 9, .ref nameLength_3), (r0, 15, 10, .int pc)]) [3, 0, 1, 2] rfl (M1 := []) [] rfl (I1 := []) [] rfl) (by first | omega | (refine ⟨?_, ?_, ?_⟩ <;> (first | omega | rfl | assumption | decide | exact Or.inl rfl | exact Or.inr rfl | (simp only; omega)))) (by omega) _ (lv_sub hl [1, 2, 3, 4, 0] rfl)
      · skip
        have c_6' : v4_5.toInt < pc.toInt := jb_ge_n (rfl) (rfl) c_6
        refine lv_aload_n hx hb dX13_nameOf_12 rfl (lv_at hl 0 rfl) ?_
        refine j7_read hx hb hown hK (C := RX13) (T := TX13) (N := 50) rfl hly_15_9 hlk_34 (hh_5.at 0 rfl) dX13_nameOf_13 ?_
        refine lv_iload hx hb dX13_nameOf_16 (lv_at hl 4 rfl) ?_
        refine j7_ialdM hx hb hK hh_5 hB156 1 rfl (by decide) hg_nameLength_3 (x := v4_5.toInt) (rfl) (by omega) (j := 0) rfl dX13_nameOf_18 (fun z_27 ez_27 (hz_27 : 0 ≤ z_27.toInt ∧ z_27.toInt ≤ 10) => ?_)
        have hqz_27 : z_27.toInt = (f_nameLength_4 (v4_5.toInt).toNat).toInt := by rw [ez_27]
        refine lv_iload_n hx hb dX13_nameOf_19 rfl (lv_at hl 3 rfl) ?_
        refine lv_iload_n hx hb dX13_nameOf_20 rfl (lv_at hl 2 rfl) ?_
        refine lv_isub hx hb dX13_nameOf_21 ?_
        refine lv_topi (fun z_28 ez_28 => ?_)
        have hz_28 : z_28.toInt = a3.toInt - a2.toInt := by rw [ez_28]; exact jb_isub2 (rfl) (rfl) (by omega)
        have C30 : ∀ (w0_29 : Int32) (H_29 : Heap) (locs_29 : List Loc), jSt (dC, dI) B base G0 G0 EX13_nameOfv9 s.heap 0 0 [(r0, 15, 9, .ref nameLength_3), (r0, 15, 10, .int pc), (r0, 15, 7, .int ps)] [(nameLength_3, 156, 1600, ca 1, f_nameLength_4)] [] H_29 locs_29 → (w0_29 = 0 ∨ w0_29 = 1) → (w0_29.toInt = 0 ∨ (f_nameLength_4 (v4_5.toInt).toNat).toInt = a3.toInt - a2.toInt) → ∀ ls : Array Slot, lv_has ls 7 [(0, .ref r0), (1, .ref r1), (2, .int a2), (3, .int a3), (4, .int v4_5)] → W p l e R s m ([.ref r0, .ref r1, .int a2, .int a3] : List Value).toArray below meth c H_29 locs_29 0 0 Q (F0 m 30 ls [.int w0_29]) := by
          intro w0_29 H_29 locs_29 hh_29 hb_w0_29 hi_29 ls hl
          have hb_w0_29' := jb_01 hb_w0_29
          refine lv_istore (lv' := [(5, .int w0_29), (0, .ref r0), (1, .ref r1), (2, .int a2), (3, .int a3), (4, .int v4_5)]) hx hb dX13_nameOf_30 hl (by decide) rfl (fun ls hl => ?_)
          refine lv_iconst (v := 0) hx hb dX13_nameOf_32 (by decide) ?_
          refine lv_istore (lv' := [(6, .int 0), (5, .int w0_29), (0, .ref r0), (1, .ref r1), (2, .int a2), (3, .int a3), (4, .int v4_5)]) hx hb dX13_nameOf_33 hl (by decide) rfl (fun ls hl => ?_)
          have L35 : ∀ (N : Nat) (v5_30 : Int32) (v6_30 : Int32) (H_30 : Heap) (locs_30 : List Loc), jSt (dC, dI) B base G0 G0 EX13_nameOfv9 s.heap 0 0 [(r0, 15, 9, .ref nameLength_3), (r0, 15, 10, .int pc), (r0, 15, 7, .int ps)] [(nameLength_3, 156, 1600, ca 1, f_nameLength_4)] [] H_30 locs_30 → (v5_30 = 0 ∨ v5_30 = 1) → (0 ≤ v6_30.toInt ∧ v6_30.toInt ≤ 10 ∧ (v5_30.toInt = 0 ∨ (f_nameLength_4 (v4_5.toInt).toNat).toInt = a3.toInt - a2.toInt)) → (10 - v6_30.toInt : Int) < N → ∀ ls : Array Slot, lv_has ls 7 [(0, .ref r0), (1, .ref r1), (2, .int a2), (3, .int a3), (4, .int v4_5), (5, .int v5_30), (6, .int v6_30)] → W p l e R s m ([.ref r0, .ref r1, .int a2, .int a3] : List Value).toArray below meth c H_30 locs_30 0 0 Q (F0 m 35 ls []) := by
            intro N
            induction N with
            | zero => intro v5_30 v6_30 H_30 locs_30 hh_30 hb_v5_30 hi_30 hm; exact absurd hm (by omega)
            | succ N L35 =>
              intro v5_30 v6_30 H_30 locs_30 hh_30 hb_v5_30 hi_30 hm_30 ls hl
              obtain ⟨hi_30_0, hi_30_1, hi_30_2⟩ := hi_30
              have hb_v5_30' := jb_01 hb_v5_30
              refine lv_iload hx hb dX13_nameOf_35 (lv_at hl 6 rfl) ?_
              refine lv_aload_n hx hb dX13_nameOf_37 rfl (lv_at hl 0 rfl) ?_
              refine j7_read hx hb hown hK (C := RX13) (T := TX13) (N := 50) rfl hly_15_9 hlk_34 (hh_30.at 0 rfl) dX13_nameOf_38 ?_
              refine lv_iload hx hb dX13_nameOf_41 (lv_at hl 4 rfl) ?_
              refine j7_ialdM hx hb hK hh_30 hB156 1 rfl (by decide) hg_nameLength_3 (x := v4_5.toInt) (rfl) (by omega) (j := 0) rfl dX13_nameOf_43 (fun z_31 ez_31 (hz_31 : 0 ≤ z_31.toInt ∧ z_31.toInt ≤ 10) => ?_)
              have hqz_31 : z_31.toInt = (f_nameLength_4 (v4_5.toInt).toNat).toInt := by rw [ez_31]
              refine lv_icmp_ge (tgt := 89) hx hb dX13_nameOf_44 (by decide) (fun c_32 => ?_) (fun c_32 => ?_)
              · skip
                have c_32' : v6_30.toInt ≥ z_31.toInt := jb_ge (rfl) (rfl) c_32
                refine lv_iload hx hb dX13_nameOf_89 (lv_at hl 5 rfl) ?_
                refine lv_if_eq (tgt := 97) hx hb dX13_nameOf_91 (by decide) (fun c_33 => ?_) (fun c_33 => ?_)
                · skip
                  have c_33' : v5_30.toInt = 0 := jb_eq (rfl) ((by decide)) c_33
                  obtain ⟨z_34, ez_34⟩ : ∃ y : Int32, y = v4_5 + 1 := ⟨_, rfl⟩
                  refine lv_iinc (v := z_34) (lv' := [(4, .int z_34), (0, .ref r0), (1, .ref r1), (2, .int a2), (3, .int a3), (5, .int v5_30), (6, .int v6_30)]) hx hb dX13_nameOf_97 hl (k := 4) rfl (by rw [ez_34]; rfl) (by decide) rfl (fun ls hl => ?_)
                  have hz_34 : z_34.toInt = v4_5.toInt + 1 := by rw [ez_34]; exact jb_iadd2 (rfl) (by decide) (by omega)
                  refine lv_goto (tgt := 3) hx hb dX13_nameOf_100 (by decide) ?_
                  exact L3 z_34 _ _ hh_30 (by first | omega | (refine ⟨?_, ?_⟩ <;> (first | omega | rfl | assumption | decide | exact Or.inl rfl | exact Or.inr rfl | (simp only; omega)))) (by omega) _ (lv_sub hl [1, 2, 3, 4, 0] rfl)
                · skip
                  have c_33' : v5_30.toInt ≠ 0 := jb_eq_n (rfl) ((by decide)) c_33
                  refine lv_iload hx hb dX13_nameOf_94 (lv_at hl 4 rfl) ?_
                  rw [hQ]
                  exact W.iret (v := v4_5) hx hb hr (fun t ht hW => ⟨⟨v4_5, (pc, ps), rfl, by first | omega | (refine ⟨?_, ?_, ?_, ?_, ?_, ?_⟩ <;> (first | omega | rfl | assumption | decide | exact Or.inl rfl | exact Or.inr rfl | (simp only; omega))), hh_30.rt (M1 := [(r0, 15, 10, .int pc), (r0, 15, 7, .int ps)]) [1, 2] rfl ht⟩, by rw [ht]; try exact hh_30.1.1, fun q h9 hq => by rw [ht]; try exact hh_30.1.2.1 q h9 hq⟩) hh_30.1.2.2 dX13_nameOf_96
              · skip
                have c_32' : v6_30.toInt < z_31.toInt := jb_ge_n (rfl) (rfl) c_32
                refine lv_iload hx hb dX13_nameOf_47 (lv_at hl 5 rfl) ?_
                refine lv_if_eq (tgt := 89) hx hb dX13_nameOf_49 (by decide) (fun c_35 => ?_) (fun c_35 => ?_)
                · skip
                  have c_35' : v5_30.toInt = 0 := jb_eq (rfl) ((by decide)) c_35
                  refine lv_iload hx hb dX13_nameOf_89 (lv_at hl 5 rfl) ?_
                  refine lv_if_eq (tgt := 97) hx hb dX13_nameOf_91 (by decide) (fun c_36 => ?_) (fun c_36 => ?_)
                  · skip
                    have c_36' : v5_30.toInt = 0 := jb_eq (rfl) ((by decide)) c_36
                    obtain ⟨z_37, ez_37⟩ : ∃ y : Int32, y = v4_5 + 1 := ⟨_, rfl⟩
                    refine lv_iinc (v := z_37) (lv' := [(4, .int z_37), (0, .ref r0), (1, .ref r1), (2, .int a2), (3, .int a3), (5, .int v5_30), (6, .int v6_30)]) hx hb dX13_nameOf_97 hl (k := 4) rfl (by rw [ez_37]; rfl) (by decide) rfl (fun ls hl => ?_)
                    have hz_37 : z_37.toInt = v4_5.toInt + 1 := by rw [ez_37]; exact jb_iadd2 (rfl) (by decide) (by omega)
                    refine lv_goto (tgt := 3) hx hb dX13_nameOf_100 (by decide) ?_
                    exact L3 z_37 _ _ hh_30 (by first | omega | (refine ⟨?_, ?_⟩ <;> (first | omega | rfl | assumption | decide | exact Or.inl rfl | exact Or.inr rfl | (simp only; omega)))) (by omega) _ (lv_sub hl [1, 2, 3, 4, 0] rfl)
                  · skip
                    have c_36' : v5_30.toInt ≠ 0 := jb_eq_n (rfl) ((by decide)) c_36
                    exact (by omega : False).elim
                · skip
                  have c_35' : v5_30.toInt ≠ 0 := jb_eq_n (rfl) ((by decide)) c_35
                  refine lv_aload_n hx hb dX13_nameOf_52 rfl (lv_at hl 0 rfl) ?_
                  obtain ⟨v_38, hv_38, hh_39⟩ := hh_30.pin (C := RX13) (T := TX13) (N := 50) hB15 rfl (by decide) hg_r0 (i := 6) (by decide) rfl
                  clear hh_30
                  obtain ⟨signs_40, rfl, hg_signs_40⟩ := hv_38
                  refine j7_read hx hb hown hK (C := RX13) (T := TX13) (N := 50) rfl hly_15_6 hlk_28 (hh_39.at 0 rfl) dX13_nameOf_53 ?_
                  refine lv_aload_n hx hb dX13_nameOf_56 rfl (lv_at hl 0 rfl) ?_
                  obtain ⟨v_41, hv_41, hh_42⟩ := hh_39.pin (C := RX13) (T := TX13) (N := 50) hB15 rfl (by decide) hg_r0 (i := 8) (by decide) rfl
                  clear hh_39
                  obtain ⟨nameAt_43, rfl, hg_nameAt_43⟩ := hv_41
                  refine j7_read hx hb hown hK (C := RX13) (T := TX13) (N := 50) rfl hly_15_8 hlk_31 (hh_42.at 0 rfl) dX13_nameOf_57 ?_
                  refine lv_iload hx hb dX13_nameOf_60 (lv_at hl 4 rfl) ?_
                  refine j7_iald hx hb hK hh_42 hB155 1 rfl (by decide) hg_nameAt_43 (x := v4_5.toInt) (rfl) (by omega) dX13_nameOf_62 (fun z_44 (hz_44 : 0 ≤ z_44.toInt ∧ z_44.toInt ≤ 11990) => ?_)
                  refine lv_iload hx hb dX13_nameOf_63 (lv_at hl 6 rfl) ?_
                  refine lv_iadd hx hb dX13_nameOf_65 ?_
                  refine lv_topi (fun z_45 ez_45 => ?_)
                  have hz_45 : z_45.toInt = z_44.toInt + v6_30.toInt := by rw [ez_45]; exact jb_iadd2 (rfl) (rfl) (by omega)
                  refine j7_iald hx hb hK hh_42 hB166 1 rfl (by decide) hg_signs_40 (x := z_45.toInt) (rfl) (by omega) dX13_nameOf_66 (fun z_46 (hz_46 : True) => ?_)
                  refine lv_aload_n hx hb dX13_nameOf_67 rfl (lv_at hl 1 rfl) ?_
                  refine lv_iload_n hx hb dX13_nameOf_68 rfl (lv_at hl 2 rfl) ?_
                  refine lv_iload hx hb dX13_nameOf_69 (lv_at hl 6 rfl) ?_
                  refine lv_iadd hx hb dX13_nameOf_71 ?_
                  refine lv_topi (fun z_47 ez_47 => ?_)
                  have hz_47 : z_47.toInt = a2.toInt + v6_30.toInt := by rw [ez_47]; exact jb_iadd2 (rfl) (rfl) (by omega)
                  refine j7_iald hx hb hK hh_42 hB194 1 rfl (by decide) hg_r1 (x := z_47.toInt) (rfl) (by omega) dX13_nameOf_72 (fun z_48 (hz_48 : True) => ?_)
                  refine lv_icmp_ne (tgt := 80) hx hb dX13_nameOf_73 (by decide) (fun c_49 => ?_) (fun c_49 => ?_)
                  · skip
                    have c_49' : z_46.toInt ≠ z_48.toInt := jb_ne (rfl) (rfl) c_49
                    refine lv_iconst (v := 0) hx hb dX13_nameOf_80 (by decide) ?_
                    refine lv_istore (lv' := [(5, .int 0), (0, .ref r0), (1, .ref r1), (2, .int a2), (3, .int a3), (4, .int v4_5), (6, .int v6_30)]) hx hb dX13_nameOf_81 hl (by decide) rfl (fun ls hl => ?_)
                    obtain ⟨z_50, ez_50⟩ : ∃ y : Int32, y = v6_30 + 1 := ⟨_, rfl⟩
                    refine lv_iinc (v := z_50) (lv' := [(6, .int z_50), (5, .int 0), (0, .ref r0), (1, .ref r1), (2, .int a2), (3, .int a3), (4, .int v4_5)]) hx hb dX13_nameOf_83 hl (k := 6) rfl (by rw [ez_50]; rfl) (by decide) rfl (fun ls hl => ?_)
                    have hz_50 : z_50.toInt = v6_30.toInt + 1 := by rw [ez_50]; exact jb_iadd2 (rfl) (by decide) (by omega)
                    refine lv_goto (tgt := 35) hx hb dX13_nameOf_86 (by decide) ?_
                    exact L35 0 z_50 _ _ (hh_42.sub (L1 := [(r0, 15, 9, .ref nameLength_3), (r0, 15, 10, .int pc), (r0, 15, 7, .int ps)]) [2, 3, 4] rfl (M1 := [(nameLength_3, 156, 1600, ca 1, f_nameLength_4)]) [0] rfl (I1 := []) [] rfl) (Or.inl rfl) (by first | omega | (refine ⟨?_, ?_, ?_⟩ <;> (first | omega | rfl | assumption | decide | exact Or.inl rfl | exact Or.inr rfl | (simp only; omega)))) (by omega) _ (lv_sub hl [2, 3, 4, 5, 6, 1, 0] rfl)
                  · skip
                    have c_49' : z_46.toInt = z_48.toInt := jb_ne_n (rfl) (rfl) c_49
                    refine lv_iconst (v := 1) hx hb dX13_nameOf_76 (by decide) ?_
                    refine lv_goto (tgt := 81) hx hb dX13_nameOf_77 (by decide) ?_
                    refine lv_istore (lv' := [(5, .int 1), (0, .ref r0), (1, .ref r1), (2, .int a2), (3, .int a3), (4, .int v4_5), (6, .int v6_30)]) hx hb dX13_nameOf_81 hl (by decide) rfl (fun ls hl => ?_)
                    obtain ⟨z_51, ez_51⟩ : ∃ y : Int32, y = v6_30 + 1 := ⟨_, rfl⟩
                    refine lv_iinc (v := z_51) (lv' := [(6, .int z_51), (5, .int 1), (0, .ref r0), (1, .ref r1), (2, .int a2), (3, .int a3), (4, .int v4_5)]) hx hb dX13_nameOf_83 hl (k := 6) rfl (by rw [ez_51]; rfl) (by decide) rfl (fun ls hl => ?_)
                    have hz_51 : z_51.toInt = v6_30.toInt + 1 := by rw [ez_51]; exact jb_iadd2 (rfl) (by decide) (by omega)
                    refine lv_goto (tgt := 35) hx hb dX13_nameOf_86 (by decide) ?_
                    exact L35 1 z_51 _ _ (hh_42.sub (L1 := [(r0, 15, 9, .ref nameLength_3), (r0, 15, 10, .int pc), (r0, 15, 7, .int ps)]) [2, 3, 4] rfl (M1 := [(nameLength_3, 156, 1600, ca 1, f_nameLength_4)]) [0] rfl (I1 := []) [] rfl) (Or.inr rfl) (by first | omega | (refine ⟨?_, ?_, ?_⟩ <;> (first | omega | rfl | assumption | decide | exact Or.inl rfl | exact Or.inr rfl | (simp only; omega)))) (by omega) _ (lv_sub hl [2, 3, 4, 5, 6, 1, 0] rfl)
          exact L35 (10 - (0 : Int32).toInt : Int).toNat.succ w0_29 0 _ _ hh_29 (hb_w0_29) (by first | omega | (refine ⟨?_, ?_, ?_⟩ <;> (first | omega | rfl | assumption | decide | exact Or.inl rfl | exact Or.inr rfl | (simp only; omega)))) (by omega) _ (lv_sub hl [2, 3, 4, 5, 6, 1, 0] rfl)
        refine lv_icmp_ne (tgt := 29) hx hb dX13_nameOf_22 (by decide) (fun c_52 => ?_) (fun c_52 => ?_)
        · skip
          have c_52' : z_27.toInt ≠ z_28.toInt := jb_ne (rfl) (rfl) c_52
          refine lv_iconst (v := 0) hx hb dX13_nameOf_29 (by decide) ?_
          exact C30 0 _ _ hh_5 (Or.inl rfl) (by first | omega | rfl | assumption | decide | exact Or.inl rfl | exact Or.inr rfl | (simp only; omega)) _ (lv_sub hl [0, 1, 2, 3, 4] rfl)
        · skip
          have c_52' : z_27.toInt = z_28.toInt := jb_ne_n (rfl) (rfl) c_52
          refine lv_iconst (v := 1) hx hb dX13_nameOf_25 (by decide) ?_
          refine lv_goto (tgt := 30) hx hb dX13_nameOf_26 (by decide) ?_
          exact C30 1 _ _ hh_5 (Or.inr rfl) (by first | omega | rfl | assumption | decide | exact Or.inl rfl | exact Or.inr rfl | (simp only; omega)) _ (lv_sub hl [0, 1, 2, 3, 4] rfl)
  exact L3 (pc.toInt - (0 : Int32).toInt : Int).toNat.succ 0 _ _ hh_4 (by first | omega | (refine ⟨?_, ?_⟩ <;> (first | omega | rfl | assumption | decide | exact Or.inl rfl | exact Or.inr rfl | (simp only; omega)))) (by omega) _ (lv_sub hl [1, 2, 3, 4, 0] rfl)
end
section
theorem dX14_position_0 : decode cX14_position 0 = .ok (.iconst 0, 1) := by decide +kernel
theorem dX14_position_1 : decode cX14_position 1 = .ok (.istore_n 3, 1) := by decide +kernel
theorem dX14_position_2 : decode cX14_position 2 = .ok (.iconst 0, 1) := by decide +kernel
theorem dX14_position_3 : decode cX14_position 3 = .ok (.istore 4, 2) := by decide +kernel
theorem dX14_position_5 : decode cX14_position 5 = .ok (.aload_n 1, 1) := by decide +kernel
theorem dX14_position_6 : decode cX14_position 6 = .ok (.getfield 529, 3) := by decide +kernel
theorem dX14_position_9 : decode cX14_position 9 = .ok (.aload_n 1, 1) := by decide +kernel
theorem dX14_position_10 : decode cX14_position 10 = .ok (.getfield 526, 3) := by decide +kernel
theorem dX14_position_13 : decode cX14_position 13 = .ok (.iconst 1, 1) := by decide +kernel
theorem dX14_position_14 : decode cX14_position 14 = .ok (.invokestatic 541, 3) := by decide +kernel
theorem dX14_position_17 : decode cX14_position 17 = .ok (.istore 5, 2) := by decide +kernel
theorem dX14_position_19 : decode cX14_position 19 = .ok (.iload 5, 2) := by decide +kernel
theorem dX14_position_21 : decode cX14_position 21 = .ok (.ifCond .lt 35, 3) := by decide +kernel
theorem dX14_position_24 : decode cX14_position 24 = .ok (.iload 5, 2) := by decide +kernel
theorem dX14_position_26 : decode cX14_position 26 = .ok (.iload_n 2, 1) := by decide +kernel
theorem dX14_position_27 : decode cX14_position 27 = .ok (.if_icmp .gt 29, 3) := by decide +kernel
theorem dX14_position_30 : decode cX14_position 30 = .ok (.iinc 3 1, 3) := by decide +kernel
theorem dX14_position_33 : decode cX14_position 33 = .ok (.iload 5, 2) := by decide +kernel
theorem dX14_position_35 : decode cX14_position 35 = .ok (.istore 4, 2) := by decide +kernel
theorem dX14_position_37 : decode cX14_position 37 = .ok (.aload_n 1, 1) := by decide +kernel
theorem dX14_position_38 : decode cX14_position 38 = .ok (.getfield 529, 3) := by decide +kernel
theorem dX14_position_41 : decode cX14_position 41 = .ok (.aload_n 1, 1) := by decide +kernel
theorem dX14_position_42 : decode cX14_position 42 = .ok (.getfield 526, 3) := by decide +kernel
theorem dX14_position_45 : decode cX14_position 45 = .ok (.iload_n 3, 1) := by decide +kernel
theorem dX14_position_46 : decode cX14_position 46 = .ok (.iconst 1, 1) := by decide +kernel
theorem dX14_position_47 : decode cX14_position 47 = .ok (.iadd, 1) := by decide +kernel
theorem dX14_position_48 : decode cX14_position 48 = .ok (.invokestatic 541, 3) := by decide +kernel
theorem dX14_position_51 : decode cX14_position 51 = .ok (.istore 5, 2) := by decide +kernel
theorem dX14_position_53 : decode cX14_position 53 = .ok (.goto (-34), 3) := by decide +kernel
theorem dX14_position_56 : decode cX14_position 56 = .ok (.aload_n 0, 1) := by decide +kernel
theorem dX14_position_57 : decode cX14_position 57 = .ok (.ldc_w 730, 3) := by decide +kernel
theorem dX14_position_60 : decode cX14_position 60 = .ok (.invokevirtual 189, 3) := by decide +kernel
theorem dX14_position_63 : decode cX14_position 63 = .ok (.aload_n 0, 1) := by decide +kernel
theorem dX14_position_64 : decode cX14_position 64 = .ok (.iload_n 3, 1) := by decide +kernel
theorem dX14_position_65 : decode cX14_position 65 = .ok (.invokevirtual 208, 3) := by decide +kernel
theorem dX14_position_68 : decode cX14_position 68 = .ok (.aload_n 0, 1) := by decide +kernel
theorem dX14_position_69 : decode cX14_position 69 = .ok (.ldc_w 732, 3) := by decide +kernel
theorem dX14_position_72 : decode cX14_position 72 = .ok (.invokevirtual 189, 3) := by decide +kernel
theorem dX14_position_75 : decode cX14_position 75 = .ok (.aload_n 0, 1) := by decide +kernel
theorem dX14_position_76 : decode cX14_position 76 = .ok (.iload_n 2, 1) := by decide +kernel
theorem dX14_position_77 : decode cX14_position 77 = .ok (.iload 4, 2) := by decide +kernel
theorem dX14_position_79 : decode cX14_position 79 = .ok (.isub, 1) := by decide +kernel
theorem dX14_position_80 : decode cX14_position 80 = .ok (.invokevirtual 208, 3) := by decide +kernel
theorem dX14_position_83 : decode cX14_position 83 = .ok (.aload_n 0, 1) := by decide +kernel
theorem dX14_position_84 : decode cX14_position 84 = .ok (.bipush 125, 2) := by decide +kernel
theorem dX14_position_86 : decode cX14_position 86 = .ok (.invokevirtual 172, 3) := by decide +kernel
theorem dX14_position_89 : decode cX14_position 89 = .ok (.return_, 1) := by decide +kernel
theorem dX14_inCache_0 : decode cX14_inCache 0 = .ok (.iconst 0, 1) := by decide +kernel
theorem dX14_inCache_1 : decode cX14_inCache 1 = .ok (.istore_n 1, 1) := by decide +kernel
theorem dX14_inCache_2 : decode cX14_inCache 2 = .ok (.iload_n 1, 1) := by decide +kernel
theorem dX14_inCache_3 : decode cX14_inCache 3 = .ok (.aload_n 0, 1) := by decide +kernel
theorem dX14_inCache_4 : decode cX14_inCache 4 = .ok (.getfield 769, 3) := by decide +kernel
theorem dX14_inCache_7 : decode cX14_inCache 7 = .ok (.if_icmp .ge 81, 3) := by decide +kernel
theorem dX14_inCache_10 : decode cX14_inCache 10 = .ok (.aload_n 0, 1) := by decide +kernel
theorem dX14_inCache_11 : decode cX14_inCache 11 = .ok (.getfield 145, 3) := by decide +kernel
theorem dX14_inCache_14 : decode cX14_inCache 14 = .ok (.iload_n 1, 1) := by decide +kernel
theorem dX14_inCache_15 : decode cX14_inCache 15 = .ok (.iaload, 1) := by decide +kernel
theorem dX14_inCache_16 : decode cX14_inCache 16 = .ok (.aload_n 0, 1) := by decide +kernel
theorem dX14_inCache_17 : decode cX14_inCache 17 = .ok (.getfield 766, 3) := by decide +kernel
theorem dX14_inCache_20 : decode cX14_inCache 20 = .ok (.if_icmp .ne 7, 3) := by decide +kernel
theorem dX14_inCache_23 : decode cX14_inCache 23 = .ok (.iconst 1, 1) := by decide +kernel
theorem dX14_inCache_24 : decode cX14_inCache 24 = .ok (.goto 4, 3) := by decide +kernel
theorem dX14_inCache_27 : decode cX14_inCache 27 = .ok (.iconst 0, 1) := by decide +kernel
theorem dX14_inCache_28 : decode cX14_inCache 28 = .ok (.istore_n 2, 1) := by decide +kernel
theorem dX14_inCache_29 : decode cX14_inCache 29 = .ok (.iconst 0, 1) := by decide +kernel
theorem dX14_inCache_30 : decode cX14_inCache 30 = .ok (.istore_n 3, 1) := by decide +kernel
theorem dX14_inCache_31 : decode cX14_inCache 31 = .ok (.iload_n 3, 1) := by decide +kernel
theorem dX14_inCache_32 : decode cX14_inCache 32 = .ok (.aload_n 0, 1) := by decide +kernel
theorem dX14_inCache_33 : decode cX14_inCache 33 = .ok (.getfield 766, 3) := by decide +kernel
theorem dX14_inCache_36 : decode cX14_inCache 36 = .ok (.if_icmp .ge 40, 3) := by decide +kernel
theorem dX14_inCache_39 : decode cX14_inCache 39 = .ok (.iload_n 2, 1) := by decide +kernel
theorem dX14_inCache_40 : decode cX14_inCache 40 = .ok (.ifCond .eq 36, 3) := by decide +kernel
theorem dX14_inCache_43 : decode cX14_inCache 43 = .ok (.aload_n 0, 1) := by decide +kernel
theorem dX14_inCache_44 : decode cX14_inCache 44 = .ok (.getfield 142, 3) := by decide +kernel
theorem dX14_inCache_47 : decode cX14_inCache 47 = .ok (.sipush 1600, 3) := by decide +kernel
theorem dX14_inCache_50 : decode cX14_inCache 50 = .ok (.iload_n 1, 1) := by decide +kernel
theorem dX14_inCache_51 : decode cX14_inCache 51 = .ok (.imul, 1) := by decide +kernel
theorem dX14_inCache_52 : decode cX14_inCache 52 = .ok (.iload_n 3, 1) := by decide +kernel
theorem dX14_inCache_53 : decode cX14_inCache 53 = .ok (.iadd, 1) := by decide +kernel
theorem dX14_inCache_54 : decode cX14_inCache 54 = .ok (.iaload, 1) := by decide +kernel
theorem dX14_inCache_55 : decode cX14_inCache 55 = .ok (.aload_n 0, 1) := by decide +kernel
theorem dX14_inCache_56 : decode cX14_inCache 56 = .ok (.getfield 148, 3) := by decide +kernel
theorem dX14_inCache_59 : decode cX14_inCache 59 = .ok (.iload_n 3, 1) := by decide +kernel
theorem dX14_inCache_60 : decode cX14_inCache 60 = .ok (.iaload, 1) := by decide +kernel
theorem dX14_inCache_61 : decode cX14_inCache 61 = .ok (.if_icmp .ne 7, 3) := by decide +kernel
theorem dX14_inCache_64 : decode cX14_inCache 64 = .ok (.iconst 1, 1) := by decide +kernel
theorem dX14_inCache_65 : decode cX14_inCache 65 = .ok (.goto 4, 3) := by decide +kernel
theorem dX14_inCache_68 : decode cX14_inCache 68 = .ok (.iconst 0, 1) := by decide +kernel
theorem dX14_inCache_69 : decode cX14_inCache 69 = .ok (.istore_n 2, 1) := by decide +kernel
theorem dX14_inCache_70 : decode cX14_inCache 70 = .ok (.iinc 3 1, 3) := by decide +kernel
theorem dX14_inCache_73 : decode cX14_inCache 73 = .ok (.goto (-42), 3) := by decide +kernel
theorem dX14_inCache_76 : decode cX14_inCache 76 = .ok (.iload_n 2, 1) := by decide +kernel
theorem dX14_inCache_77 : decode cX14_inCache 77 = .ok (.ifCond .eq 5, 3) := by decide +kernel
theorem dX14_inCache_80 : decode cX14_inCache 80 = .ok (.iload_n 1, 1) := by decide +kernel
theorem dX14_inCache_81 : decode cX14_inCache 81 = .ok (.ireturn, 1) := by decide +kernel
theorem dX14_inCache_82 : decode cX14_inCache 82 = .ok (.iinc 1 1, 3) := by decide +kernel
theorem dX14_inCache_85 : decode cX14_inCache 85 = .ok (.goto (-83), 3) := by decide +kernel
theorem dX14_inCache_88 : decode cX14_inCache 88 = .ok (.iconst (-1), 1) := by decide +kernel
theorem dX14_inCache_89 : decode cX14_inCache 89 = .ok (.ireturn, 1) := by decide +kernel
theorem dX14_isWaitedFor_0 : decode cX14_isWaitedFor 0 = .ok (.iconst 0, 1) := by decide +kernel
theorem dX14_isWaitedFor_1 : decode cX14_isWaitedFor 1 = .ok (.istore_n 2, 1) := by decide +kernel
theorem dX14_isWaitedFor_2 : decode cX14_isWaitedFor 2 = .ok (.iload_n 2, 1) := by decide +kernel
theorem dX14_isWaitedFor_3 : decode cX14_isWaitedFor 3 = .ok (.aload_n 0, 1) := by decide +kernel
theorem dX14_isWaitedFor_4 : decode cX14_isWaitedFor 4 = .ok (.getfield 711, 3) := by decide +kernel
theorem dX14_isWaitedFor_7 : decode cX14_isWaitedFor 7 = .ok (.if_icmp .ge 21, 3) := by decide +kernel
theorem dX14_isWaitedFor_10 : decode cX14_isWaitedFor 10 = .ok (.aload_n 0, 1) := by decide +kernel
theorem dX14_isWaitedFor_11 : decode cX14_isWaitedFor 11 = .ok (.getfield 91, 3) := by decide +kernel
theorem dX14_isWaitedFor_14 : decode cX14_isWaitedFor 14 = .ok (.iload_n 2, 1) := by decide +kernel
theorem dX14_isWaitedFor_15 : decode cX14_isWaitedFor 15 = .ok (.aaload, 1) := by decide +kernel
theorem dX14_isWaitedFor_16 : decode cX14_isWaitedFor 16 = .ok (.aload_n 1, 1) := by decide +kernel
theorem dX14_isWaitedFor_17 : decode cX14_isWaitedFor 17 = .ok (.if_acmp .ne 5, 3) := by decide +kernel
theorem dX14_isWaitedFor_20 : decode cX14_isWaitedFor 20 = .ok (.iconst 1, 1) := by decide +kernel
theorem dX14_isWaitedFor_21 : decode cX14_isWaitedFor 21 = .ok (.ireturn, 1) := by decide +kernel
theorem dX14_isWaitedFor_22 : decode cX14_isWaitedFor 22 = .ok (.iinc 2 1, 3) := by decide +kernel
theorem dX14_isWaitedFor_25 : decode cX14_isWaitedFor 25 = .ok (.goto (-23), 3) := by decide +kernel
theorem dX14_isWaitedFor_28 : decode cX14_isWaitedFor 28 = .ok (.iconst 0, 1) := by decide +kernel
theorem dX14_isWaitedFor_29 : decode cX14_isWaitedFor 29 = .ok (.ireturn, 1) := by decide +kernel
def EX14_position : List (Nat × Nat) := [(16, 6), (101, 0)]
set_option maxHeartbeats 4000000 in
set_option maxRecDepth 20000 in
theorem uX14_position (l : Launch) (dC : Nat → ClassId) (dI : Nat → Nat → Nat) (ca : Nat → ClassId) (base : Nat) (B : jF) (hB : jBok B) (hAp : jAp (dC, dI)) (hB14 : ∀ n G a H, B 14 n G a H ↔ jOb (dC, dI) 14 11 (F14 n G) a H) (hB16 : ∀ n G a H, B 16 n G a H ↔ jOb (dC, dI) 16 74 (F16 n G) a H) (hB101 : ∀ n G a H, B 101 n G a H ↔ jAr (dC, dI) (ca 1) (fun j z => True) n a H) (hB194 : ∀ n G a H, B 194 n G a H ↔ jAr (dC, dI) (ca 1) (fun j z => True) n a H) (G0 : jT) (H0 : Heap) (r0 : Nat) (r1 : Nat) (a2 : Int32) : Met l yX14_position (jw yX14_position cX14_position 6 none) ({ frames := 12, cells := 0, slots := 0, locals := 462 }) (va_Pc [.ref r0, .ref r1, .int a2] (fun U => U.heap = H0 ∧ jX B base G0 [] H0 ∧ jG dC dI ca base U ∧ G0 r1 = some (14, 0) ∧ G0 r0 = some (16, 0) ∧ jP (dC, dI) G0 H0 [] ∧ 0 ≤ a2.toInt ∧ a2.toInt ≤ 1500)) (va_Qv (S := Unit) (fun u => True) (fun u t => jRt (dC, dI) B base G0 EX14_position H0 [] t.heap) (jA base)) 0 0 (jA base) := by
  refine Met.ofW (cc := cX14_position) (maxL := 6) (ret := none) (by decide) rfl ?_
  intro p e s m args below meth c s₁ Bd hml hv
  obtain ⟨rfl, hH0, hX, hG, hg_r1, hg_r0, hP0, hp0, hp1⟩ := hv
  have hK := hG.1
  have hx := Bd.exec
  have hb := Bd.bytes
  have hr := Bd.returns
  have hts := atoms_spec (ws := (jw yX14_position cX14_position 6 none)) Bd.pre
  have htw : ∀ w ∈ jWl, w.before _ s = true := fun w h => hts w (List.mem_cons_of_mem _ h)
  have hown : s.vm.findClass RX14 = some m.cls := findClass_of_methodNamed Bd.named
  have hlocks := Bd.notSynchronized
  obtain ⟨Q, hQ⟩ : ∃ Q, Q = MQ below (va_Qv (S := Unit) (fun u => True) (fun u t => jRt (dC, dI) B base G0 EX14_position H0 [] t.heap) (jA base)) ([.ref r0, .ref r1, .int a2] : List Value).toArray s 0 0 (jA base) := ⟨_, rfl⟩
  rw [← hQ]
  have hl := lv_entry ([.ref r0, .ref r1, .int a2]) (n := 6) (Nat.le_of_ble_eq_true rfl)
  rw [lg_entry_eq]
  generalize (lg_sl ([.ref r0, .ref r1, .int a2]) ++ List.replicate (6 - (lg_sl ([.ref r0, .ref r1, .int a2])).length) Slot.unset).toArray = ls at hl ⊢
  have hl : lv_has ls 6 [(0, .ref r0), (1, .ref r1), (2, .int a2)] := hl
  generalize hR : (headSpec (jw yX14_position cX14_position 6 none) ({ frames := 12, cells := 0, slots := 0, locals := 462 })).room = R
  subst hH0
  have hh : jSt (dC, dI) B base G0 G0 EX14_position s.heap 0 0 [] [] [] s.heap [] := jSt.start hX hP0 jMc.nil jIs.nil
  clear hX hP0
  have hk0 : (0 : Int32).toInt = 0 := by decide
  have hk1 : (1 : Int32).toInt = 1 := by decide
  have hk125 : (125 : Int32).toInt = 125 := by decide
  have hly_14_3 := htw (u_lay RX12 TX12 3) (jWc_wsX120 _ (u_in_lay (by decide)))
  have hly_14_4 := htw (u_lay RX12 TX12 4) (jWc_wsX120 _ (u_in_lay (by decide)))
  have hlk_529 := (va_Nw.use (A := ([.ref r0, .ref r1, .int a2] : List Value).toArray) rfl (hG.2.1 RX14 529 "ProofServerModel$Document" "text" "[I" "ProofServerModel" (List.mem_of_getElem? (i := 1735) (by decide +kernel))))
  have hlk_526 := (va_Nw.use (A := ([.ref r0, .ref r1, .int a2] : List Value).toArray) rfl (hG.2.1 RX14 526 "ProofServerModel$Document" "units" "I" "ProofServerModel" (List.mem_of_getElem? (i := 1736) (by decide +kernel))))
  obtain ⟨str730, rstr730, hstr7300⟩ := hG.str (o := RX14) (k := 730) (tx := "{\"line\":") (List.mem_of_getElem? (i := 2534) (by decide +kernel))
  have hstr730 : jStr base str730 8 s s.heap := hstr7300
  obtain ⟨str732, rstr732, hstr7320⟩ := hG.str (o := RX14) (k := 732) (tx := ",\"character\":") (List.mem_of_getElem? (i := 2535) (by decide +kernel))
  have hstr732 : jStr base str732 13 s s.heap := hstr7320
  have hrg_a2 := jb_rng a2
  refine lv_iconst (v := 0) hx hb dX14_position_0 (by decide) ?_
  refine lv_istore_n (lv' := [(3, .int 0), (0, .ref r0), (1, .ref r1), (2, .int a2)]) hx hb dX14_position_1 rfl hl (by decide) rfl (fun ls hl => ?_)
  refine lv_iconst (v := 0) hx hb dX14_position_2 (by decide) ?_
  refine lv_istore (lv' := [(4, .int 0), (3, .int 0), (0, .ref r0), (1, .ref r1), (2, .int a2)]) hx hb dX14_position_3 hl (by decide) rfl (fun ls hl => ?_)
  refine lv_aload_n hx hb dX14_position_5 rfl (lv_at hl 3 rfl) ?_
  obtain ⟨v_1, hv_1, hh_2⟩ := hh.pin (C := RX12) (T := TX12) (N := 11) hB14 rfl (by decide) hg_r1 (i := 3) (by decide) rfl
  clear hh
  obtain ⟨text_3, rfl, hg_text_3⟩ := hv_1
  refine j7_readN hx hb hown hK (C := RX12) (T := TX12) (N := 11) rfl hly_14_3 hlk_529 (hh_2.at 0 rfl) dX14_position_6 ?_
  refine lv_aload_n hx hb dX14_position_9 rfl (lv_at hl 3 rfl) ?_
  obtain ⟨v_4, hv_4, hh_5⟩ := hh_2.pin (C := RX12) (T := TX12) (N := 11) hB14 rfl (by decide) hg_r1 (i := 4) (by decide) rfl
  clear hh_2
  obtain ⟨units_6, rfl, hlounits_6, hhiunits_6⟩ := hv_4
  refine j7_readN hx hb hown hK (C := RX12) (T := TX12) (N := 11) rfl hly_14_4 hlk_526 (hh_5.at 0 rfl) dX14_position_10 ?_
  refine lv_iconst (v := 1) hx hb dX14_position_13 (by decide) ?_
  refine va_calli (A0 := jA base) (H0 := s.heap) (va_runS (As := [.ref text_3, .int units_6, .int 1]) (rest := []) ⟨hx, hb, hml, hown, hts⟩ (uX14_lineBeginv9 l dC dI ca base B hB hAp hB194 G0 s.heap text_3 units_6 1 1500) (va_cwS 3 hts (jgS (jWr_58 _ (List.mem_of_getElem? (i := 20) rfl)) (jWr_58 _ (List.mem_of_getElem? (i := 21) rfl)) (jWr_1 _ (List.mem_of_getElem? (i := 5) rfl)) (jWr_58 _ (List.mem_of_getElem? (i := 22) rfl))) rfl rfl rfl (by decide +kernel) ⟨by rw [← hR]; exact Nat.le_of_ble_eq_true rfl, by rw [← hR]; exact Nat.le_of_ble_eq_true rfl⟩) ⟨fun a U g mk q => by obtain ⟨q0, q1, q2, qK, q10, q11, q12⟩ := q; exact ⟨q0, q1, q2, jG.calling g mk a qK, q10, q11, q12⟩, fun U hU hW => ⟨rfl, hU, hh_5.2.1, hG.step hW hU hh_5.1, hg_text_3, jP.nil, by first | omega | (refine ⟨?_, ?_, ?_⟩ <;> (first | omega | rfl | assumption | decide | exact Or.inl rfl | exact Or.inr rfl | (simp only; omega)))⟩⟩ rfl rfl hl.1 rfl (lv_room (Nat.le_of_ble_eq_true rfl)) dX14_position_14 ⟨Nat.zero_le _, Nat.zero_le _⟩) hh_5.1 (fun q _ h => h) (fun q h => h) (fun r_8 u_7 t_7 H_7 locs_7 ht_7 hvm_7 hr_8 hb_7 hz_7 hk_7 hS_7 => ?_)
  rw [ht_7] at hb_7
  obtain ⟨hb_71, hb_72, hb_73, hb_74, hb_75⟩ := hb_7
  have hh_7 : jSt (dC, dI) B base G0 G0 EX14_position s.heap 0 0 [(r1, 14, 4, .int units_6), (r1, 14, 3, .ref text_3)] [] [] H_7 locs_7 := ((hh_5.call hb_71 hb_72 hb_73 hb_74 hS_7 rfl (L1 := [(r1, 14, 4, .int units_6), (r1, 14, 3, .ref text_3)]) [0, 1] rfl rfl (M1 := []) [] rfl rfl (I1 := []) [] rfl rfl).more hb_75)
  clear hh_5 ht_7 hvm_7 hz_7 hk_7 hS_7 hb_71 hb_72 hb_73 hb_74 hb_75
  obtain ⟨hr_8_0, hr_8_1, hr_8_2⟩ := hr_8
  refine lv_istore (lv' := [(5, .int r_8), (4, .int 0), (3, .int 0), (0, .ref r0), (1, .ref r1), (2, .int a2)]) hx hb dX14_position_17 hl (by decide) rfl (fun ls hl => ?_)
  have L19 : ∀ (N : Nat) (v3_9 : Int32) (v4_9 : Int32) (v5_9 : Int32) (H_9 : Heap) (locs_9 : List Loc), jSt (dC, dI) B base G0 G0 EX14_position s.heap 0 0 [(r1, 14, 4, .int units_6), (r1, 14, 3, .ref text_3)] [] [] H_9 locs_9 → (0 ≤ v3_9.toInt ∧ v3_9.toInt ≤ 1500 ∧ 0 ≤ v4_9.toInt ∧ v4_9.toInt ≤ 1500 ∧ -1 ≤ v5_9.toInt ∧ v5_9.toInt ≤ 1500 ∧ (v5_9.toInt = -1 ∨ v3_9.toInt + 1 ≤ v5_9.toInt)) → (1501 - v3_9.toInt : Int) < N → ∀ ls : Array Slot, lv_has ls 6 [(0, .ref r0), (1, .ref r1), (2, .int a2), (3, .int v3_9), (4, .int v4_9), (5, .int v5_9)] → W p l e R s m ([.ref r0, .ref r1, .int a2] : List Value).toArray below meth c H_9 locs_9 0 0 Q (F0 m 19 ls []) := by
    intro N
    induction N with
    | zero => intro v3_9 v4_9 v5_9 H_9 locs_9 hh_9  hi_9 hm; exact absurd hm (by omega)
    | succ N L19 =>
      intro v3_9 v4_9 v5_9 H_9 locs_9 hh_9  hi_9 hm_9 ls hl
      obtain ⟨hi_9_0, hi_9_1, hi_9_2, hi_9_3, hi_9_4, hi_9_5, hi_9_6⟩ := hi_9
      try clear hr_8_2
      refine lv_iload hx hb dX14_position_19 (lv_at hl 5 rfl) ?_
      have C56 : ∀ (H_10 : Heap) (locs_10 : List Loc), jSt (dC, dI) B base G0 G0 EX14_position s.heap 0 0 [(r1, 14, 4, .int units_6), (r1, 14, 3, .ref text_3)] [] [] H_10 locs_10 → (0 ≤ v4_9.toInt ∧ v4_9.toInt ≤ 1500) → ∀ ls : Array Slot, lv_has ls 6 [(0, .ref r0), (1, .ref r1), (2, .int a2), (3, .int v3_9), (4, .int v4_9), (5, .int v5_9)] → W p l e R s m ([.ref r0, .ref r1, .int a2] : List Value).toArray below meth c H_10 locs_10 0 0 Q (F0 m 56 ls []) := by
        intro  H_10 locs_10 hh_10  hi_10 ls hl
        obtain ⟨hi_10_0, hi_10_1⟩ := hi_10
        refine lv_aload_n hx hb dX14_position_56 rfl (lv_at hl 0 rfl) ?_
        refine j_ldcSw hx hb hown rstr730 dX14_position_57 ?_
        obtain ⟨v_13, hv_13, hh_14⟩ := hh_10.pin (C := RX14) (T := TX14) (N := 74) hB16 rfl (by decide) hg_r0 (i := 6) (by decide) rfl
        obtain ⟨framed_15, rfl, hloframed_15, hhiframed_15⟩ := hv_13
        refine va_callv (A0 := jA base) (H0 := s.heap) (va_runV (As := [.ref str730]) (rest := []) ⟨hx, hb, hml, hown, hts⟩ (uX14_word l dC dI ca base B hB hAp hB16 hB101 G0 H_10 r0 str730 8 framed_15) (cwV 1 hts (jgV (jWr_53 _ (List.mem_of_getElem? (i := 22) rfl)) (jWr_53 _ (List.mem_of_getElem? (i := 23) rfl)) (jWr_54 _ (List.mem_of_getElem? (i := 0) rfl)) (jWr_1 _ (List.mem_of_getElem? (i := 5) rfl)) (jWr_54 _ (List.mem_of_getElem? (i := 1) rfl))) rfl rfl rfl (by decide +kernel) ⟨by rw [← hR]; exact Nat.le_of_ble_eq_true rfl, by rw [← hR]; exact Nat.le_of_ble_eq_true rfl⟩) ⟨fun a U g mk q => by obtain ⟨q0, q1, q2, qK, q10, q11, q12, q13⟩ := q; exact ⟨q0, q1, q2, jG.calling g mk a qK, (q10.moved (Vm.Alike.refl U.vm)), q11, q12, q13⟩, hh_14.recv (C := RX14) (T := TX14) (N := 74) hB16 rfl (by decide) hg_r0 hK, fun U hU hW => ⟨rfl, hU, hh_14.2.1, hG.step hW hU hh_14.1, (hstr730.moved hW.alike).kept hh_14.1.2.1, hg_r0, (hh_14.2.2.1.sub (L1 := [(r0, 16, 6, .int framed_15)]) [0] rfl), by first | omega | (refine ⟨?_, ?_, ?_⟩ <;> (first | omega | rfl | assumption | decide | exact Or.inl rfl | exact Or.inr rfl | (simp only; omega)))⟩⟩ rfl rfl hl.1 rfl (lv_room (Nat.le_of_ble_eq_true rfl)) dX14_position_60 ⟨Nat.zero_le _, Nat.zero_le _⟩) hh_14.1 (fun q _ h => h) (fun q h => h) (fun u_11 t_11 H_11 locs_11 ht_11 hvm_11 hr_12 hb_11 hz_11 hk_11 hS_11 => ?_)
        obtain ⟨qf_11, rfl⟩ : ∃ z, z = u_11 := ⟨_, rfl⟩
        rw [ht_11] at hb_11
        obtain ⟨hb_111, hb_112, hb_113, hb_114, hb_115⟩ := hb_11
        have hh_11 : jSt (dC, dI) B base G0 G0 EX14_position s.heap 0 0 [(r0, 16, 6, .int qf_11), (r1, 14, 4, .int units_6), (r1, 14, 3, .ref text_3)] [] [] H_11 locs_11 := ((hh_14.call hb_111 hb_112 hb_113 hb_114 hS_11 rfl (L1 := [(r1, 14, 4, .int units_6), (r1, 14, 3, .ref text_3)]) [1, 2] rfl rfl (M1 := []) [] rfl rfl (I1 := []) [] rfl rfl).more hb_115)
        clear hh_14 ht_11 hvm_11 hz_11 hk_11 hS_11 hb_111 hb_112 hb_113 hb_114 hb_115
        obtain ⟨hr_12_0, hr_12_1⟩ := hr_12
        refine lv_aload_n hx hb dX14_position_63 rfl (lv_at hl 0 rfl) ?_
        refine lv_iload_n hx hb dX14_position_64 rfl (lv_at hl 3 rfl) ?_
        refine va_callv (A0 := jA base) (H0 := s.heap) (va_runV (As := [.int v3_9]) (rest := []) ⟨hx, hb, hml, hown, hts⟩ (uX14_number l dC dI ca base B hB hAp hB16 hB101 G0 H_11 r0 v3_9 qf_11) (cwV 1 hts (jgV (jWr_54 _ (List.mem_of_getElem? (i := 18) rfl)) (jWr_54 _ (List.mem_of_getElem? (i := 19) rfl)) (jWr_54 _ (List.mem_of_getElem? (i := 20) rfl)) (jWr_1 _ (List.mem_of_getElem? (i := 5) rfl)) (jWr_54 _ (List.mem_of_getElem? (i := 21) rfl))) rfl rfl rfl (by decide +kernel) ⟨by rw [← hR]; exact Nat.le_of_ble_eq_true rfl, by rw [← hR]; exact Nat.le_of_ble_eq_true rfl⟩) ⟨fun a U g mk q => by obtain ⟨q0, q1, q2, qK, q10, q11, q12⟩ := q; exact ⟨q0, q1, q2, jG.calling g mk a qK, q10, q11, q12⟩, hh_11.recv (C := RX14) (T := TX14) (N := 74) hB16 rfl (by decide) hg_r0 hK, fun U hU hW => ⟨rfl, hU, hh_11.2.1, hG.step hW hU hh_11.1, hg_r0, (hh_11.2.2.1.sub (L1 := [(r0, 16, 6, .int qf_11)]) [0] rfl), by first | omega | (refine ⟨?_, ?_⟩ <;> (first | omega | rfl | assumption | decide | exact Or.inl rfl | exact Or.inr rfl | (simp only; omega)))⟩⟩ rfl rfl hl.1 rfl (lv_room (Nat.le_of_ble_eq_true rfl)) dX14_position_65 ⟨Nat.zero_le _, Nat.zero_le _⟩) hh_11.1 (fun q _ h => h) (fun q h => h) (fun u_16 t_16 H_16 locs_16 ht_16 hvm_16 hr_17 hb_16 hz_16 hk_16 hS_16 => ?_)
        obtain ⟨qf_16, rfl⟩ : ∃ z, z = u_16 := ⟨_, rfl⟩
        rw [ht_16] at hb_16
        obtain ⟨hb_161, hb_162, hb_163, hb_164, hb_165⟩ := hb_16
        have hh_16 : jSt (dC, dI) B base G0 G0 EX14_position s.heap 0 0 [(r0, 16, 6, .int qf_16), (r1, 14, 4, .int units_6), (r1, 14, 3, .ref text_3)] [] [] H_16 locs_16 := ((hh_11.call hb_161 hb_162 hb_163 hb_164 hS_16 rfl (L1 := [(r1, 14, 4, .int units_6), (r1, 14, 3, .ref text_3)]) [1, 2] rfl rfl (M1 := []) [] rfl rfl (I1 := []) [] rfl rfl).more hb_165)
        clear hh_11 ht_16 hvm_16 hz_16 hk_16 hS_16 hb_161 hb_162 hb_163 hb_164 hb_165
        obtain ⟨hr_17_0, hr_17_1⟩ := hr_17
        refine lv_aload_n hx hb dX14_position_68 rfl (lv_at hl 0 rfl) ?_
        refine j_ldcSw hx hb hown rstr732 dX14_position_69 ?_
        refine va_callv (A0 := jA base) (H0 := s.heap) (va_runV (As := [.ref str732]) (rest := []) ⟨hx, hb, hml, hown, hts⟩ (uX14_word l dC dI ca base B hB hAp hB16 hB101 G0 H_16 r0 str732 13 qf_16) (cwV 1 hts (jgV (jWr_53 _ (List.mem_of_getElem? (i := 22) rfl)) (jWr_53 _ (List.mem_of_getElem? (i := 23) rfl)) (jWr_54 _ (List.mem_of_getElem? (i := 0) rfl)) (jWr_1 _ (List.mem_of_getElem? (i := 5) rfl)) (jWr_54 _ (List.mem_of_getElem? (i := 1) rfl))) rfl rfl rfl (by decide +kernel) ⟨by rw [← hR]; exact Nat.le_of_ble_eq_true rfl, by rw [← hR]; exact Nat.le_of_ble_eq_true rfl⟩) ⟨fun a U g mk q => by obtain ⟨q0, q1, q2, qK, q10, q11, q12, q13⟩ := q; exact ⟨q0, q1, q2, jG.calling g mk a qK, (q10.moved (Vm.Alike.refl U.vm)), q11, q12, q13⟩, hh_16.recv (C := RX14) (T := TX14) (N := 74) hB16 rfl (by decide) hg_r0 hK, fun U hU hW => ⟨rfl, hU, hh_16.2.1, hG.step hW hU hh_16.1, (hstr732.moved hW.alike).kept hh_16.1.2.1, hg_r0, (hh_16.2.2.1.sub (L1 := [(r0, 16, 6, .int qf_16)]) [0] rfl), by first | omega | (refine ⟨?_, ?_, ?_⟩ <;> (first | omega | rfl | assumption | decide | exact Or.inl rfl | exact Or.inr rfl | (simp only; omega)))⟩⟩ rfl rfl hl.1 rfl (lv_room (Nat.le_of_ble_eq_true rfl)) dX14_position_72 ⟨Nat.zero_le _, Nat.zero_le _⟩) hh_16.1 (fun q _ h => h) (fun q h => h) (fun u_18 t_18 H_18 locs_18 ht_18 hvm_18 hr_19 hb_18 hz_18 hk_18 hS_18 => ?_)
        obtain ⟨qf_18, rfl⟩ : ∃ z, z = u_18 := ⟨_, rfl⟩
        rw [ht_18] at hb_18
        obtain ⟨hb_181, hb_182, hb_183, hb_184, hb_185⟩ := hb_18
        have hh_18 : jSt (dC, dI) B base G0 G0 EX14_position s.heap 0 0 [(r0, 16, 6, .int qf_18), (r1, 14, 4, .int units_6), (r1, 14, 3, .ref text_3)] [] [] H_18 locs_18 := ((hh_16.call hb_181 hb_182 hb_183 hb_184 hS_18 rfl (L1 := [(r1, 14, 4, .int units_6), (r1, 14, 3, .ref text_3)]) [1, 2] rfl rfl (M1 := []) [] rfl rfl (I1 := []) [] rfl rfl).more hb_185)
        clear hh_16 ht_18 hvm_18 hz_18 hk_18 hS_18 hb_181 hb_182 hb_183 hb_184 hb_185
        obtain ⟨hr_19_0, hr_19_1⟩ := hr_19
        refine lv_aload_n hx hb dX14_position_75 rfl (lv_at hl 0 rfl) ?_
        refine lv_iload_n hx hb dX14_position_76 rfl (lv_at hl 2 rfl) ?_
        refine lv_iload hx hb dX14_position_77 (lv_at hl 4 rfl) ?_
        refine lv_isub hx hb dX14_position_79 ?_
        refine lv_topi (fun z_20 ez_20 => ?_)
        have hz_20 : z_20.toInt = a2.toInt - v4_9.toInt := by rw [ez_20]; exact jb_isub2 (rfl) (rfl) (by omega)
        refine va_callv (A0 := jA base) (H0 := s.heap) (va_runV (As := [.int z_20]) (rest := []) ⟨hx, hb, hml, hown, hts⟩ (uX14_number l dC dI ca base B hB hAp hB16 hB101 G0 H_18 r0 z_20 qf_18) (cwV 1 hts (jgV (jWr_54 _ (List.mem_of_getElem? (i := 18) rfl)) (jWr_54 _ (List.mem_of_getElem? (i := 19) rfl)) (jWr_54 _ (List.mem_of_getElem? (i := 20) rfl)) (jWr_1 _ (List.mem_of_getElem? (i := 5) rfl)) (jWr_54 _ (List.mem_of_getElem? (i := 21) rfl))) rfl rfl rfl (by decide +kernel) ⟨by rw [← hR]; exact Nat.le_of_ble_eq_true rfl, by rw [← hR]; exact Nat.le_of_ble_eq_true rfl⟩) ⟨fun a U g mk q => by obtain ⟨q0, q1, q2, qK, q10, q11, q12⟩ := q; exact ⟨q0, q1, q2, jG.calling g mk a qK, q10, q11, q12⟩, hh_18.recv (C := RX14) (T := TX14) (N := 74) hB16 rfl (by decide) hg_r0 hK, fun U hU hW => ⟨rfl, hU, hh_18.2.1, hG.step hW hU hh_18.1, hg_r0, (hh_18.2.2.1.sub (L1 := [(r0, 16, 6, .int qf_18)]) [0] rfl), by first | omega | (refine ⟨?_, ?_⟩ <;> (first | omega | rfl | assumption | decide | exact Or.inl rfl | exact Or.inr rfl | (simp only; omega)))⟩⟩ rfl rfl hl.1 rfl (lv_room (Nat.le_of_ble_eq_true rfl)) dX14_position_80 ⟨Nat.zero_le _, Nat.zero_le _⟩) hh_18.1 (fun q _ h => h) (fun q h => h) (fun u_21 t_21 H_21 locs_21 ht_21 hvm_21 hr_22 hb_21 hz_21 hk_21 hS_21 => ?_)
        obtain ⟨qf_21, rfl⟩ : ∃ z, z = u_21 := ⟨_, rfl⟩
        rw [ht_21] at hb_21
        obtain ⟨hb_211, hb_212, hb_213, hb_214, hb_215⟩ := hb_21
        have hh_21 : jSt (dC, dI) B base G0 G0 EX14_position s.heap 0 0 [(r0, 16, 6, .int qf_21), (r1, 14, 4, .int units_6), (r1, 14, 3, .ref text_3)] [] [] H_21 locs_21 := ((hh_18.call hb_211 hb_212 hb_213 hb_214 hS_21 rfl (L1 := [(r1, 14, 4, .int units_6), (r1, 14, 3, .ref text_3)]) [1, 2] rfl rfl (M1 := []) [] rfl rfl (I1 := []) [] rfl rfl).more hb_215)
        clear hh_18 ht_21 hvm_21 hz_21 hk_21 hS_21 hb_211 hb_212 hb_213 hb_214 hb_215
        obtain ⟨hr_22_0, hr_22_1⟩ := hr_22
        refine lv_aload_n hx hb dX14_position_83 rfl (lv_at hl 0 rfl) ?_
        refine lv_bipush (v := 125) hx hb dX14_position_84 (by decide) ?_
        refine va_callv (A0 := jA base) (H0 := s.heap) (va_runV (As := [.int 125]) (rest := []) ⟨hx, hb, hml, hown, hts⟩ (uX14_put l dC dI ca base B hB hAp hB16 hB101 G0 H_21 r0 125 qf_21) (cwV 1 hts (jgV (jWr_54 _ (List.mem_of_getElem? (i := 2) rfl)) (jWr_54 _ (List.mem_of_getElem? (i := 3) rfl)) (jWr_54 _ (List.mem_of_getElem? (i := 4) rfl)) (jWr_1 _ (List.mem_of_getElem? (i := 5) rfl)) (jWr_54 _ (List.mem_of_getElem? (i := 5) rfl))) rfl rfl rfl (by decide +kernel) ⟨by rw [← hR]; exact Nat.le_of_ble_eq_true rfl, by rw [← hR]; exact Nat.le_of_ble_eq_true rfl⟩) ⟨fun a U g mk q => by obtain ⟨q0, q1, q2, qK, q10, q11, q12⟩ := q; exact ⟨q0, q1, q2, jG.calling g mk a qK, q10, q11, q12⟩, hh_21.recv (C := RX14) (T := TX14) (N := 74) hB16 rfl (by decide) hg_r0 hK, fun U hU hW => ⟨rfl, hU, hh_21.2.1, hG.step hW hU hh_21.1, hg_r0, (hh_21.2.2.1.sub (L1 := [(r0, 16, 6, .int qf_21)]) [0] rfl), by first | omega | (refine ⟨?_, ?_⟩ <;> (first | omega | rfl | assumption | decide | exact Or.inl rfl | exact Or.inr rfl | (simp only; omega)))⟩⟩ rfl rfl hl.1 rfl (lv_room (Nat.le_of_ble_eq_true rfl)) dX14_position_86 ⟨Nat.zero_le _, Nat.zero_le _⟩) hh_21.1 (fun q _ h => h) (fun q h => h) (fun u_23 t_23 H_23 locs_23 ht_23 hvm_23 hr_24 hb_23 hz_23 hk_23 hS_23 => ?_)
        obtain ⟨qf_23, rfl⟩ : ∃ z, z = u_23 := ⟨_, rfl⟩
        rw [ht_23] at hb_23
        obtain ⟨hb_231, hb_232, hb_233, hb_234, hb_235⟩ := hb_23
        have hh_23 : jSt (dC, dI) B base G0 G0 EX14_position s.heap 0 0 [(r0, 16, 6, .int qf_23), (r1, 14, 4, .int units_6), (r1, 14, 3, .ref text_3)] [] [] H_23 locs_23 := ((hh_21.call hb_231 hb_232 hb_233 hb_234 hS_23 rfl (L1 := [(r1, 14, 4, .int units_6), (r1, 14, 3, .ref text_3)]) [1, 2] rfl rfl (M1 := []) [] rfl rfl (I1 := []) [] rfl rfl).more hb_235)
        clear hh_21 ht_23 hvm_23 hz_23 hk_23 hS_23 hb_231 hb_232 hb_233 hb_234 hb_235
        obtain ⟨hr_24_0, hr_24_1⟩ := hr_24
        rw [hQ]
        exact W.vret hx hb hr (fun t ht hW => ⟨⟨(), rfl, trivial, hh_23.rt (M1 := []) [] rfl ht⟩, by rw [ht]; try exact hh_23.1.1, fun q h9 hq => by rw [ht]; try exact hh_23.1.2.1 q h9 hq⟩) hh_23.1.2.2 dX14_position_89
      refine lv_if_lt (tgt := 56) hx hb dX14_position_21 (by decide) (fun c_25 => ?_) (fun c_25 => ?_)
      · skip
        have c_25' : v5_9.toInt < 0 := jb_lt (rfl) ((by decide)) c_25
        exact C56  _ _ hh_9 (by first | omega | (refine ⟨?_, ?_⟩ <;> (first | omega | rfl | assumption | decide | exact Or.inl rfl | exact Or.inr rfl | (simp only; omega)))) _ (lv_sub hl [0, 1, 2, 3, 4, 5] rfl)
      · skip
        have c_25' : v5_9.toInt ≥ 0 := jb_lt_n (rfl) ((by decide)) c_25
        refine lv_iload hx hb dX14_position_24 (lv_at hl 5 rfl) ?_
        refine lv_iload_n hx hb dX14_position_26 rfl (lv_at hl 2 rfl) ?_
        refine lv_icmp_gt (tgt := 56) hx hb dX14_position_27 (by decide) (fun c_26 => ?_) (fun c_26 => ?_)
        · skip
          have c_26' : v5_9.toInt > a2.toInt := jb_gt (rfl) (rfl) c_26
          exact C56  _ _ hh_9 (by first | omega | (refine ⟨?_, ?_⟩ <;> (first | omega | rfl | assumption | decide | exact Or.inl rfl | exact Or.inr rfl | (simp only; omega)))) _ (lv_sub hl [0, 1, 2, 3, 4, 5] rfl)
        · skip
          have c_26' : v5_9.toInt ≤ a2.toInt := jb_gt_n (rfl) (rfl) c_26
          obtain ⟨z_27, ez_27⟩ : ∃ y : Int32, y = v3_9 + 1 := ⟨_, rfl⟩
          refine lv_iinc (v := z_27) (lv' := [(3, .int z_27), (0, .ref r0), (1, .ref r1), (2, .int a2), (4, .int v4_9), (5, .int v5_9)]) hx hb dX14_position_30 hl (k := 3) rfl (by rw [ez_27]; rfl) (by decide) rfl (fun ls hl => ?_)
          have hz_27 : z_27.toInt = v3_9.toInt + 1 := by rw [ez_27]; exact jb_iadd2 (rfl) (by decide) (by omega)
          refine lv_iload hx hb dX14_position_33 (lv_at hl 5 rfl) ?_
          refine lv_istore (lv' := [(4, .int v5_9), (3, .int z_27), (0, .ref r0), (1, .ref r1), (2, .int a2), (5, .int v5_9)]) hx hb dX14_position_35 hl (by decide) rfl (fun ls hl => ?_)
          refine lv_aload_n hx hb dX14_position_37 rfl (lv_at hl 3 rfl) ?_
          refine j7_readN hx hb hown hK (C := RX12) (T := TX12) (N := 11) rfl hly_14_3 hlk_529 (hh_9.at 1 rfl) dX14_position_38 ?_
          refine lv_aload_n hx hb dX14_position_41 rfl (lv_at hl 3 rfl) ?_
          refine j7_readN hx hb hown hK (C := RX12) (T := TX12) (N := 11) rfl hly_14_4 hlk_526 (hh_9.at 0 rfl) dX14_position_42 ?_
          refine lv_iload_n hx hb dX14_position_45 rfl (lv_at hl 1 rfl) ?_
          refine lv_iconst (v := 1) hx hb dX14_position_46 (by decide) ?_
          refine lv_iadd hx hb dX14_position_47 ?_
          refine lv_topi (fun z_28 ez_28 => ?_)
          have hz_28 : z_28.toInt = z_27.toInt + 1 := by rw [ez_28]; exact jb_iadd2 (rfl) ((by decide)) (by omega)
          refine va_calli (A0 := jA base) (H0 := s.heap) (va_runS (As := [.ref text_3, .int units_6, .int z_28]) (rest := []) ⟨hx, hb, hml, hown, hts⟩ (uX14_lineBeginv9 l dC dI ca base B hB hAp hB194 G0 H_9 text_3 units_6 z_28 1500) (va_cwS 3 hts (jgS (jWr_58 _ (List.mem_of_getElem? (i := 20) rfl)) (jWr_58 _ (List.mem_of_getElem? (i := 21) rfl)) (jWr_1 _ (List.mem_of_getElem? (i := 5) rfl)) (jWr_58 _ (List.mem_of_getElem? (i := 22) rfl))) rfl rfl rfl (by decide +kernel) ⟨by rw [← hR]; exact Nat.le_of_ble_eq_true rfl, by rw [← hR]; exact Nat.le_of_ble_eq_true rfl⟩) ⟨fun a U g mk q => by obtain ⟨q0, q1, q2, qK, q10, q11, q12⟩ := q; exact ⟨q0, q1, q2, jG.calling g mk a qK, q10, q11, q12⟩, fun U hU hW => ⟨rfl, hU, hh_9.2.1, hG.step hW hU hh_9.1, hg_text_3, jP.nil, by first | omega | (refine ⟨?_, ?_, ?_⟩ <;> (first | omega | rfl | assumption | decide | exact Or.inl rfl | exact Or.inr rfl | (simp only; omega)))⟩⟩ rfl rfl hl.1 rfl (lv_room (Nat.le_of_ble_eq_true rfl)) dX14_position_48 ⟨Nat.zero_le _, Nat.zero_le _⟩) hh_9.1 (fun q _ h => h) (fun q h => h) (fun r_30 u_29 t_29 H_29 locs_29 ht_29 hvm_29 hr_30 hb_29 hz_29 hk_29 hS_29 => ?_)
          rw [ht_29] at hb_29
          obtain ⟨hb_291, hb_292, hb_293, hb_294, hb_295⟩ := hb_29
          have hh_29 : jSt (dC, dI) B base G0 G0 EX14_position s.heap 0 0 [(r1, 14, 4, .int units_6), (r1, 14, 3, .ref text_3)] [] [] H_29 locs_29 := ((hh_9.call hb_291 hb_292 hb_293 hb_294 hS_29 rfl (L1 := [(r1, 14, 4, .int units_6), (r1, 14, 3, .ref text_3)]) [0, 1] rfl rfl (M1 := []) [] rfl rfl (I1 := []) [] rfl rfl).more hb_295)
          clear hh_9 ht_29 hvm_29 hz_29 hk_29 hS_29 hb_291 hb_292 hb_293 hb_294 hb_295
          obtain ⟨hr_30_0, hr_30_1, hr_30_2⟩ := hr_30
          refine lv_istore (lv' := [(5, .int r_30), (4, .int v5_9), (3, .int z_27), (0, .ref r0), (1, .ref r1), (2, .int a2)]) hx hb dX14_position_51 hl (by decide) rfl (fun ls hl => ?_)
          refine lv_goto (tgt := 19) hx hb dX14_position_53 (by decide) ?_
          exact L19 z_27 v5_9 r_30 _ _ hh_29 (by first | omega | (refine ⟨?_, ?_, ?_, ?_, ?_, ?_, ?_⟩ <;> (first | omega | rfl | assumption | decide | exact Or.inl rfl | exact Or.inr rfl | (simp only; omega)))) (by omega) _ (lv_sub hl [3, 4, 5, 2, 1, 0] rfl)
  exact L19 (1501 - (0 : Int32).toInt : Int).toNat.succ 0 0 r_8 _ _ hh_7 (by first | omega | (refine ⟨?_, ?_, ?_, ?_, ?_, ?_, ?_⟩ <;> (first | omega | rfl | assumption | decide | exact Or.inl rfl | exact Or.inr rfl | (simp only; omega)))) (by omega) _ (lv_sub hl [3, 4, 5, 2, 1, 0] rfl)
end
section
theorem dX14_keepRow_0 : decode cX14_keepRow 0 = .ok (.aload_n 0, 1) := by decide +kernel
theorem dX14_keepRow_1 : decode cX14_keepRow 1 = .ok (.invokevirtual 772, 3) := by decide +kernel
theorem dX14_keepRow_4 : decode cX14_keepRow 4 = .ok (.istore_n 1, 1) := by decide +kernel
theorem dX14_keepRow_5 : decode cX14_keepRow 5 = .ok (.iload_n 1, 1) := by decide +kernel
theorem dX14_keepRow_6 : decode cX14_keepRow 6 = .ok (.ifCond .ge 14, 3) := by decide +kernel
theorem dX14_keepRow_9 : decode cX14_keepRow 9 = .ok (.aload_n 0, 1) := by decide +kernel
theorem dX14_keepRow_10 : decode cX14_keepRow 10 = .ok (.getfield 769, 3) := by decide +kernel
theorem dX14_keepRow_13 : decode cX14_keepRow 13 = .ok (.bipush 24, 2) := by decide +kernel
theorem dX14_keepRow_15 : decode cX14_keepRow 15 = .ok (.if_icmp .ne 5, 3) := by decide +kernel
theorem dX14_keepRow_18 : decode cX14_keepRow 18 = .ok (.iconst 0, 1) := by decide +kernel
theorem dX14_keepRow_19 : decode cX14_keepRow 19 = .ok (.istore_n 1, 1) := by decide +kernel
theorem dX14_keepRow_20 : decode cX14_keepRow 20 = .ok (.iload_n 1, 1) := by decide +kernel
theorem dX14_keepRow_21 : decode cX14_keepRow 21 = .ok (.ifCond .lt 91, 3) := by decide +kernel
theorem dX14_keepRow_24 : decode cX14_keepRow 24 = .ok (.iload_n 1, 1) := by decide +kernel
theorem dX14_keepRow_25 : decode cX14_keepRow 25 = .ok (.istore_n 2, 1) := by decide +kernel
theorem dX14_keepRow_26 : decode cX14_keepRow 26 = .ok (.iload_n 2, 1) := by decide +kernel
theorem dX14_keepRow_27 : decode cX14_keepRow 27 = .ok (.iconst 1, 1) := by decide +kernel
theorem dX14_keepRow_28 : decode cX14_keepRow 28 = .ok (.iadd, 1) := by decide +kernel
theorem dX14_keepRow_29 : decode cX14_keepRow 29 = .ok (.aload_n 0, 1) := by decide +kernel
theorem dX14_keepRow_30 : decode cX14_keepRow 30 = .ok (.getfield 769, 3) := by decide +kernel
theorem dX14_keepRow_33 : decode cX14_keepRow 33 = .ok (.if_icmp .ge 69, 3) := by decide +kernel
theorem dX14_keepRow_36 : decode cX14_keepRow 36 = .ok (.aload_n 0, 1) := by decide +kernel
theorem dX14_keepRow_37 : decode cX14_keepRow 37 = .ok (.getfield 145, 3) := by decide +kernel
theorem dX14_keepRow_40 : decode cX14_keepRow 40 = .ok (.iload_n 2, 1) := by decide +kernel
theorem dX14_keepRow_41 : decode cX14_keepRow 41 = .ok (.aload_n 0, 1) := by decide +kernel
theorem dX14_keepRow_42 : decode cX14_keepRow 42 = .ok (.getfield 145, 3) := by decide +kernel
theorem dX14_keepRow_45 : decode cX14_keepRow 45 = .ok (.iload_n 2, 1) := by decide +kernel
theorem dX14_keepRow_46 : decode cX14_keepRow 46 = .ok (.iconst 1, 1) := by decide +kernel
theorem dX14_keepRow_47 : decode cX14_keepRow 47 = .ok (.iadd, 1) := by decide +kernel
theorem dX14_keepRow_48 : decode cX14_keepRow 48 = .ok (.iaload, 1) := by decide +kernel
theorem dX14_keepRow_49 : decode cX14_keepRow 49 = .ok (.iastore, 1) := by decide +kernel
theorem dX14_keepRow_50 : decode cX14_keepRow 50 = .ok (.iconst 0, 1) := by decide +kernel
theorem dX14_keepRow_51 : decode cX14_keepRow 51 = .ok (.istore_n 3, 1) := by decide +kernel
theorem dX14_keepRow_52 : decode cX14_keepRow 52 = .ok (.iload_n 3, 1) := by decide +kernel
theorem dX14_keepRow_53 : decode cX14_keepRow 53 = .ok (.aload_n 0, 1) := by decide +kernel
theorem dX14_keepRow_54 : decode cX14_keepRow 54 = .ok (.getfield 145, 3) := by decide +kernel
theorem dX14_keepRow_57 : decode cX14_keepRow 57 = .ok (.iload_n 2, 1) := by decide +kernel
theorem dX14_keepRow_58 : decode cX14_keepRow 58 = .ok (.iaload, 1) := by decide +kernel
theorem dX14_keepRow_59 : decode cX14_keepRow 59 = .ok (.if_icmp .ge 37, 3) := by decide +kernel
theorem dX14_keepRow_62 : decode cX14_keepRow 62 = .ok (.aload_n 0, 1) := by decide +kernel
theorem dX14_keepRow_63 : decode cX14_keepRow 63 = .ok (.getfield 142, 3) := by decide +kernel
theorem dX14_keepRow_66 : decode cX14_keepRow 66 = .ok (.sipush 1600, 3) := by decide +kernel
theorem dX14_keepRow_69 : decode cX14_keepRow 69 = .ok (.iload_n 2, 1) := by decide +kernel
theorem dX14_keepRow_70 : decode cX14_keepRow 70 = .ok (.imul, 1) := by decide +kernel
theorem dX14_keepRow_71 : decode cX14_keepRow 71 = .ok (.iload_n 3, 1) := by decide +kernel
theorem dX14_keepRow_72 : decode cX14_keepRow 72 = .ok (.iadd, 1) := by decide +kernel
theorem dX14_keepRow_73 : decode cX14_keepRow 73 = .ok (.aload_n 0, 1) := by decide +kernel
theorem dX14_keepRow_74 : decode cX14_keepRow 74 = .ok (.getfield 142, 3) := by decide +kernel
theorem dX14_keepRow_77 : decode cX14_keepRow 77 = .ok (.sipush 1600, 3) := by decide +kernel
theorem dX14_keepRow_80 : decode cX14_keepRow 80 = .ok (.iload_n 2, 1) := by decide +kernel
theorem dX14_keepRow_81 : decode cX14_keepRow 81 = .ok (.imul, 1) := by decide +kernel
theorem dX14_keepRow_82 : decode cX14_keepRow 82 = .ok (.sipush 1600, 3) := by decide +kernel
theorem dX14_keepRow_85 : decode cX14_keepRow 85 = .ok (.iadd, 1) := by decide +kernel
theorem dX14_keepRow_86 : decode cX14_keepRow 86 = .ok (.iload_n 3, 1) := by decide +kernel
theorem dX14_keepRow_87 : decode cX14_keepRow 87 = .ok (.iadd, 1) := by decide +kernel
theorem dX14_keepRow_88 : decode cX14_keepRow 88 = .ok (.iaload, 1) := by decide +kernel
theorem dX14_keepRow_89 : decode cX14_keepRow 89 = .ok (.iastore, 1) := by decide +kernel
theorem dX14_keepRow_90 : decode cX14_keepRow 90 = .ok (.iinc 3 1, 3) := by decide +kernel
theorem dX14_keepRow_93 : decode cX14_keepRow 93 = .ok (.goto (-41), 3) := by decide +kernel
theorem dX14_keepRow_96 : decode cX14_keepRow 96 = .ok (.iinc 2 1, 3) := by decide +kernel
theorem dX14_keepRow_99 : decode cX14_keepRow 99 = .ok (.goto (-73), 3) := by decide +kernel
theorem dX14_keepRow_102 : decode cX14_keepRow 102 = .ok (.aload_n 0, 1) := by decide +kernel
theorem dX14_keepRow_103 : decode cX14_keepRow 103 = .ok (.dup, 1) := by decide +kernel
theorem dX14_keepRow_104 : decode cX14_keepRow 104 = .ok (.getfield 769, 3) := by decide +kernel
theorem dX14_keepRow_107 : decode cX14_keepRow 107 = .ok (.iconst 1, 1) := by decide +kernel
theorem dX14_keepRow_108 : decode cX14_keepRow 108 = .ok (.isub, 1) := by decide +kernel
theorem dX14_keepRow_109 : decode cX14_keepRow 109 = .ok (.putfield 769, 3) := by decide +kernel
theorem dX14_keepRow_112 : decode cX14_keepRow 112 = .ok (.aload_n 0, 1) := by decide +kernel
theorem dX14_keepRow_113 : decode cX14_keepRow 113 = .ok (.getfield 145, 3) := by decide +kernel
theorem dX14_keepRow_116 : decode cX14_keepRow 116 = .ok (.aload_n 0, 1) := by decide +kernel
theorem dX14_keepRow_117 : decode cX14_keepRow 117 = .ok (.getfield 769, 3) := by decide +kernel
theorem dX14_keepRow_120 : decode cX14_keepRow 120 = .ok (.aload_n 0, 1) := by decide +kernel
theorem dX14_keepRow_121 : decode cX14_keepRow 121 = .ok (.getfield 766, 3) := by decide +kernel
theorem dX14_keepRow_124 : decode cX14_keepRow 124 = .ok (.iastore, 1) := by decide +kernel
theorem dX14_keepRow_125 : decode cX14_keepRow 125 = .ok (.iconst 0, 1) := by decide +kernel
theorem dX14_keepRow_126 : decode cX14_keepRow 126 = .ok (.istore_n 2, 1) := by decide +kernel
theorem dX14_keepRow_127 : decode cX14_keepRow 127 = .ok (.iload_n 2, 1) := by decide +kernel
theorem dX14_keepRow_128 : decode cX14_keepRow 128 = .ok (.aload_n 0, 1) := by decide +kernel
theorem dX14_keepRow_129 : decode cX14_keepRow 129 = .ok (.getfield 766, 3) := by decide +kernel
theorem dX14_keepRow_132 : decode cX14_keepRow 132 = .ok (.if_icmp .ge 30, 3) := by decide +kernel
theorem dX14_keepRow_135 : decode cX14_keepRow 135 = .ok (.aload_n 0, 1) := by decide +kernel
theorem dX14_keepRow_136 : decode cX14_keepRow 136 = .ok (.getfield 142, 3) := by decide +kernel
theorem dX14_keepRow_139 : decode cX14_keepRow 139 = .ok (.sipush 1600, 3) := by decide +kernel
theorem dX14_keepRow_142 : decode cX14_keepRow 142 = .ok (.aload_n 0, 1) := by decide +kernel
theorem dX14_keepRow_143 : decode cX14_keepRow 143 = .ok (.getfield 769, 3) := by decide +kernel
theorem dX14_keepRow_146 : decode cX14_keepRow 146 = .ok (.imul, 1) := by decide +kernel
theorem dX14_keepRow_147 : decode cX14_keepRow 147 = .ok (.iload_n 2, 1) := by decide +kernel
theorem dX14_keepRow_148 : decode cX14_keepRow 148 = .ok (.iadd, 1) := by decide +kernel
theorem dX14_keepRow_149 : decode cX14_keepRow 149 = .ok (.aload_n 0, 1) := by decide +kernel
theorem dX14_keepRow_150 : decode cX14_keepRow 150 = .ok (.getfield 148, 3) := by decide +kernel
theorem dX14_keepRow_153 : decode cX14_keepRow 153 = .ok (.iload_n 2, 1) := by decide +kernel
theorem dX14_keepRow_154 : decode cX14_keepRow 154 = .ok (.iaload, 1) := by decide +kernel
theorem dX14_keepRow_155 : decode cX14_keepRow 155 = .ok (.iastore, 1) := by decide +kernel
theorem dX14_keepRow_156 : decode cX14_keepRow 156 = .ok (.iinc 2 1, 3) := by decide +kernel
theorem dX14_keepRow_159 : decode cX14_keepRow 159 = .ok (.goto (-32), 3) := by decide +kernel
theorem dX14_keepRow_162 : decode cX14_keepRow 162 = .ok (.aload_n 0, 1) := by decide +kernel
theorem dX14_keepRow_163 : decode cX14_keepRow 163 = .ok (.dup, 1) := by decide +kernel
theorem dX14_keepRow_164 : decode cX14_keepRow 164 = .ok (.getfield 769, 3) := by decide +kernel
theorem dX14_keepRow_167 : decode cX14_keepRow 167 = .ok (.iconst 1, 1) := by decide +kernel
theorem dX14_keepRow_168 : decode cX14_keepRow 168 = .ok (.iadd, 1) := by decide +kernel
theorem dX14_keepRow_169 : decode cX14_keepRow 169 = .ok (.putfield 769, 3) := by decide +kernel
theorem dX14_keepRow_172 : decode cX14_keepRow 172 = .ok (.return_, 1) := by decide +kernel
end
section
section
variable {p : Program} {l : Launch} {e : Env} {R : Room} {s : State} {m : MethodId} {args : Array Value} {below : List Frame} {meth : Method} {c : Code} {H : Heap} {locs : List Loc} {cells slots : Nat} {Q : State → Prop}
variable {cc : ByteArray} {pc : Nat} {ls : Array Slot} {rest : List Value}
theorem j7_nst_n (hexec : p.tables.exec = Jvm.exec) (hb : c.code = cc) {k : Fin 4} {i nL : Nat} {lv lv' : List (Nat × Value)} (hdg : decode cc pc = .ok (.astore_n k, 1)) (hi : (k : Nat) = i) (h : lv_has ls nL lv) (hn : i < nL) (hl : (i, Value.null) :: lv.filter (fun q => !(q.1 == i) && !(q.1 + 1 == i && q.2.category == 2)) = lv')
    (kk : ∀ ls' : Array Slot, lv_has ls' nL lv' → W p l e R s m args below meth c H locs cells slots Q (F0 m (pc + 1) ls' rest)) : W p l e R s m args below meth c H locs cells slots Q (F0 m pc ls (.null :: rest)) := by
  subst hi
  obtain ⟨ls', e', h'⟩ := lv_store1 (v := .null) h hn rfl
  intro T hT X
  obtain ⟨t, a, b⟩ := kk ls' (hl ▸ h') T hT X
  refine ⟨t, ?_, b⟩
  jvm_step X.here [X.here.top, ↓top_set X.here.top, hexec, hb, hdg, e', Value.isRef]
  exact a
end
section
variable {p : Program} {l : Launch} {e : Env} {R : Room} {s : State} {m : MethodId} {args : Array Value} {below : List Frame} {meth : Method} {c : Code} {H : Heap} {locs : List Loc} {cells slots : Nat} {Q : State → Prop}
variable {cc : ByteArray} {pc : Nat} {ls : Array Slot} {rest : List Value}
theorem j7_nld_n (hexec : p.tables.exec = Jvm.exec) (hb : c.code = cc) {k : Fin 4} {i : Nat} (hdg : decode cc pc = .ok (.aload_n k, 1)) (hi : (k : Nat) = i) (hl : ls[i]? = some (.val .null))
    (k : W p l e R s m args below meth c H locs cells slots Q (F0 m (pc + 1) ls (.null :: rest))) : W p l e R s m args below meth c H locs cells slots Q (F0 m pc ls (rest)) := by
  subst hi
  intro T hT X
  obtain ⟨t, a, b⟩ := k T hT X
  refine ⟨t, ?_, b⟩
  jvm_step X.here [X.here.top, hexec, hb, hdg, hl, Value.isRef]
  exact a
end
theorem dX14_putLine_0 : decode cX14_putLine 0 = .ok (.aload_n 0, 1) := by decide +kernel
theorem dX14_putLine_1 : decode cX14_putLine 1 = .ok (.aload_n 0, 1) := by decide +kernel
theorem dX14_putLine_2 : decode cX14_putLine 2 = .ok (.getfield 122, 3) := by decide +kernel
theorem dX14_putLine_5 : decode cX14_putLine 5 = .ok (.getfield 632, 3) := by decide +kernel
theorem dX14_putLine_8 : decode cX14_putLine 8 = .ok (.iload_n 1, 1) := by decide +kernel
theorem dX14_putLine_9 : decode cX14_putLine 9 = .ok (.aload_n 0, 1) := by decide +kernel
theorem dX14_putLine_10 : decode cX14_putLine 10 = .ok (.getfield 122, 3) := by decide +kernel
theorem dX14_putLine_13 : decode cX14_putLine 13 = .ok (.getfield 634, 3) := by decide +kernel
theorem dX14_putLine_16 : decode cX14_putLine 16 = .ok (.invokevirtual 388, 3) := by decide +kernel
theorem dX14_putLine_19 : decode cX14_putLine 19 = .ok (.aload_n 0, 1) := by decide +kernel
theorem dX14_putLine_20 : decode cX14_putLine 20 = .ok (.getfield 122, 3) := by decide +kernel
theorem dX14_putLine_23 : decode cX14_putLine 23 = .ok (.iload_n 1, 1) := by decide +kernel
theorem dX14_putLine_24 : decode cX14_putLine 24 = .ok (.putfield 634, 3) := by decide +kernel
theorem dX14_putLine_27 : decode cX14_putLine 27 = .ok (.return_, 1) := by decide +kernel
theorem dX14_beginDiagnostics_0 : decode cX14_beginDiagnostics 0 = .ok (.aload_n 0, 1) := by decide +kernel
theorem dX14_beginDiagnostics_1 : decode cX14_beginDiagnostics 1 = .ok (.iconst 0, 1) := by decide +kernel
theorem dX14_beginDiagnostics_2 : decode cX14_beginDiagnostics 2 = .ok (.putfield 160, 3) := by decide +kernel
theorem dX14_beginDiagnostics_5 : decode cX14_beginDiagnostics 5 = .ok (.aload_n 0, 1) := by decide +kernel
theorem dX14_beginDiagnostics_6 : decode cX14_beginDiagnostics 6 = .ok (.ldc_w 722, 3) := by decide +kernel
theorem dX14_beginDiagnostics_9 : decode cX14_beginDiagnostics 9 = .ok (.invokevirtual 189, 3) := by decide +kernel
theorem dX14_beginDiagnostics_12 : decode cX14_beginDiagnostics 12 = .ok (.aload_n 0, 1) := by decide +kernel
theorem dX14_beginDiagnostics_13 : decode cX14_beginDiagnostics 13 = .ok (.aload_n 1, 1) := by decide +kernel
theorem dX14_beginDiagnostics_14 : decode cX14_beginDiagnostics 14 = .ok (.getfield 511, 3) := by decide +kernel
theorem dX14_beginDiagnostics_17 : decode cX14_beginDiagnostics 17 = .ok (.iconst 0, 1) := by decide +kernel
theorem dX14_beginDiagnostics_18 : decode cX14_beginDiagnostics 18 = .ok (.aload_n 1, 1) := by decide +kernel
theorem dX14_beginDiagnostics_19 : decode cX14_beginDiagnostics 19 = .ok (.getfield 508, 3) := by decide +kernel
theorem dX14_beginDiagnostics_22 : decode cX14_beginDiagnostics 22 = .ok (.invokevirtual 388, 3) := by decide +kernel
theorem dX14_beginDiagnostics_25 : decode cX14_beginDiagnostics 25 = .ok (.aload_n 0, 1) := by decide +kernel
theorem dX14_beginDiagnostics_26 : decode cX14_beginDiagnostics 26 = .ok (.ldc_w 724, 3) := by decide +kernel
theorem dX14_beginDiagnostics_29 : decode cX14_beginDiagnostics 29 = .ok (.invokevirtual 189, 3) := by decide +kernel
theorem dX14_beginDiagnostics_32 : decode cX14_beginDiagnostics 32 = .ok (.aload_n 0, 1) := by decide +kernel
theorem dX14_beginDiagnostics_33 : decode cX14_beginDiagnostics 33 = .ok (.aload_n 1, 1) := by decide +kernel
theorem dX14_beginDiagnostics_34 : decode cX14_beginDiagnostics 34 = .ok (.getfield 524, 3) := by decide +kernel
theorem dX14_beginDiagnostics_37 : decode cX14_beginDiagnostics 37 = .ok (.invokevirtual 208, 3) := by decide +kernel
theorem dX14_beginDiagnostics_40 : decode cX14_beginDiagnostics 40 = .ok (.aload_n 0, 1) := by decide +kernel
theorem dX14_beginDiagnostics_41 : decode cX14_beginDiagnostics 41 = .ok (.ldc_w 726, 3) := by decide +kernel
theorem dX14_beginDiagnostics_44 : decode cX14_beginDiagnostics 44 = .ok (.invokevirtual 189, 3) := by decide +kernel
theorem dX14_beginDiagnostics_47 : decode cX14_beginDiagnostics 47 = .ok (.return_, 1) := by decide +kernel
theorem dX14_endDiagnostics_0 : decode cX14_endDiagnostics 0 = .ok (.aload_n 0, 1) := by decide +kernel
theorem dX14_endDiagnostics_1 : decode cX14_endDiagnostics 1 = .ok (.ldc_w 728, 3) := by decide +kernel
theorem dX14_endDiagnostics_4 : decode cX14_endDiagnostics 4 = .ok (.invokevirtual 189, 3) := by decide +kernel
theorem dX14_endDiagnostics_7 : decode cX14_endDiagnostics 7 = .ok (.aload_n 0, 1) := by decide +kernel
theorem dX14_endDiagnostics_8 : decode cX14_endDiagnostics 8 = .ok (.invokevirtual 397, 3) := by decide +kernel
theorem dX14_endDiagnostics_11 : decode cX14_endDiagnostics 11 = .ok (.return_, 1) := by decide +kernel
theorem dX14_nextDocument_0 : decode cX14_nextDocument 0 = .ok (.aconst_null, 1) := by decide +kernel
theorem dX14_nextDocument_1 : decode cX14_nextDocument 1 = .ok (.astore_n 1, 1) := by decide +kernel
theorem dX14_nextDocument_2 : decode cX14_nextDocument 2 = .ok (.iconst 0, 1) := by decide +kernel
theorem dX14_nextDocument_3 : decode cX14_nextDocument 3 = .ok (.istore_n 2, 1) := by decide +kernel
theorem dX14_nextDocument_4 : decode cX14_nextDocument 4 = .ok (.iload_n 2, 1) := by decide +kernel
theorem dX14_nextDocument_5 : decode cX14_nextDocument 5 = .ok (.aload_n 0, 1) := by decide +kernel
theorem dX14_nextDocument_6 : decode cX14_nextDocument 6 = .ok (.getfield 505, 3) := by decide +kernel
theorem dX14_nextDocument_9 : decode cX14_nextDocument 9 = .ok (.if_icmp .ge 66, 3) := by decide +kernel
theorem dX14_nextDocument_12 : decode cX14_nextDocument 12 = .ok (.aload_n 0, 1) := by decide +kernel
theorem dX14_nextDocument_13 : decode cX14_nextDocument 13 = .ok (.getfield 74, 3) := by decide +kernel
theorem dX14_nextDocument_16 : decode cX14_nextDocument 16 = .ok (.iload_n 2, 1) := by decide +kernel
theorem dX14_nextDocument_17 : decode cX14_nextDocument 17 = .ok (.aaload, 1) := by decide +kernel
theorem dX14_nextDocument_18 : decode cX14_nextDocument 18 = .ok (.astore_n 3, 1) := by decide +kernel
theorem dX14_nextDocument_19 : decode cX14_nextDocument 19 = .ok (.aload_n 3, 1) := by decide +kernel
theorem dX14_nextDocument_20 : decode cX14_nextDocument 20 = .ok (.getfield 531, 3) := by decide +kernel
theorem dX14_nextDocument_23 : decode cX14_nextDocument 23 = .ok (.aload_n 3, 1) := by decide +kernel
theorem dX14_nextDocument_24 : decode cX14_nextDocument 24 = .ok (.getfield 587, 3) := by decide +kernel
theorem dX14_nextDocument_27 : decode cX14_nextDocument 27 = .ok (.if_icmp .eq 42, 3) := by decide +kernel
theorem dX14_nextDocument_30 : decode cX14_nextDocument 30 = .ok (.aload_n 3, 1) := by decide +kernel
theorem dX14_nextDocument_31 : decode cX14_nextDocument 31 = .ok (.aload_n 0, 1) := by decide +kernel
theorem dX14_nextDocument_32 : decode cX14_nextDocument 32 = .ok (.getfield 129, 3) := by decide +kernel
theorem dX14_nextDocument_35 : decode cX14_nextDocument 35 = .ok (.iconst 0, 1) := by decide +kernel
theorem dX14_nextDocument_36 : decode cX14_nextDocument 36 = .ok (.aaload, 1) := by decide +kernel
theorem dX14_nextDocument_37 : decode cX14_nextDocument 37 = .ok (.if_acmp .eq 32, 3) := by decide +kernel
theorem dX14_nextDocument_40 : decode cX14_nextDocument 40 = .ok (.aload_n 3, 1) := by decide +kernel
theorem dX14_nextDocument_41 : decode cX14_nextDocument 41 = .ok (.aload_n 0, 1) := by decide +kernel
theorem dX14_nextDocument_42 : decode cX14_nextDocument 42 = .ok (.getfield 129, 3) := by decide +kernel
theorem dX14_nextDocument_45 : decode cX14_nextDocument 45 = .ok (.iconst 1, 1) := by decide +kernel
theorem dX14_nextDocument_46 : decode cX14_nextDocument 46 = .ok (.aaload, 1) := by decide +kernel
theorem dX14_nextDocument_47 : decode cX14_nextDocument 47 = .ok (.if_acmp .ne 6, 3) := by decide +kernel
theorem dX14_nextDocument_50 : decode cX14_nextDocument 50 = .ok (.goto 19, 3) := by decide +kernel
theorem dX14_nextDocument_53 : decode cX14_nextDocument 53 = .ok (.aload_n 0, 1) := by decide +kernel
theorem dX14_nextDocument_54 : decode cX14_nextDocument 54 = .ok (.aload_n 3, 1) := by decide +kernel
theorem dX14_nextDocument_55 : decode cX14_nextDocument 55 = .ok (.invokevirtual 775, 3) := by decide +kernel
theorem dX14_nextDocument_58 : decode cX14_nextDocument 58 = .ok (.ifCond .eq 5, 3) := by decide +kernel
theorem dX14_nextDocument_61 : decode cX14_nextDocument 61 = .ok (.aload_n 3, 1) := by decide +kernel
theorem dX14_nextDocument_62 : decode cX14_nextDocument 62 = .ok (.areturn, 1) := by decide +kernel
theorem dX14_nextDocument_63 : decode cX14_nextDocument 63 = .ok (.aload_n 1, 1) := by decide +kernel
theorem dX14_nextDocument_64 : decode cX14_nextDocument 64 = .ok (.ifnonnull 5, 3) := by decide +kernel
theorem dX14_nextDocument_67 : decode cX14_nextDocument 67 = .ok (.aload_n 3, 1) := by decide +kernel
theorem dX14_nextDocument_68 : decode cX14_nextDocument 68 = .ok (.astore_n 1, 1) := by decide +kernel
theorem dX14_nextDocument_69 : decode cX14_nextDocument 69 = .ok (.iinc 2 1, 3) := by decide +kernel
theorem dX14_nextDocument_72 : decode cX14_nextDocument 72 = .ok (.goto (-68), 3) := by decide +kernel
theorem dX14_nextDocument_75 : decode cX14_nextDocument 75 = .ok (.aload_n 1, 1) := by decide +kernel
theorem dX14_nextDocument_76 : decode cX14_nextDocument 76 = .ok (.areturn, 1) := by decide +kernel
def EX14_beginDiagnostics : List (Nat × Nat) := [(16, 6), (101, 0)]
def EX14_endDiagnostics : List (Nat × Nat) := [(16, 3), (16, 4), (16, 6), (101, 0)]
def EX14_putLine : List (Nat × Nat) := [(15, 46), (16, 6), (101, 0)]
set_option maxHeartbeats 4000000 in
set_option maxRecDepth 20000 in
theorem uX14_beginDiagnostics (l : Launch) (dC : Nat → ClassId) (dI : Nat → Nat → Nat) (ca : Nat → ClassId) (base : Nat) (B : jF) (hB : jBok B) (hAp : jAp (dC, dI)) (hB14 : ∀ n G a H, B 14 n G a H ↔ jOb (dC, dI) 14 11 (F14 n G) a H) (hB16 : ∀ n G a H, B 16 n G a H ↔ jOb (dC, dI) 16 74 (F16 n G) a H) (hB101 : ∀ n G a H, B 101 n G a H ↔ jAr (dC, dI) (ca 1) (fun j z => True) n a H) (hB195 : ∀ n G a H, B 195 n G a H ↔ jAr (dC, dI) (ca 1) (fun j z => True) n a H) (G0 : jT) (H0 : Heap) (r0 : Nat) (r1 : Nat) : Met l yX14_beginDiagnostics (jw yX14_beginDiagnostics cX14_beginDiagnostics 2 none) ({ frames := 12, cells := 0, slots := 0, locals := 462 }) (va_Pc [.ref r0, .ref r1] (fun U => U.heap = H0 ∧ jX B base G0 [] H0 ∧ jG dC dI ca base U ∧ G0 r1 = some (14, 0) ∧ G0 r0 = some (16, 0) ∧ jP (dC, dI) G0 H0 [] ∧ True)) (va_Qv (S := Unit) (fun u => True) (fun u t => jRt (dC, dI) B base G0 EX14_beginDiagnostics H0 [] t.heap) (jA base)) 0 0 (jA base) := by
  refine Met.ofW (cc := cX14_beginDiagnostics) (maxL := 2) (ret := none) (by decide) rfl ?_
  intro p e s m args below meth c s₁ Bd hml hv
  obtain ⟨rfl, hH0, hX, hG, hg_r1, hg_r0, hP0, hp0⟩ := hv
  have hK := hG.1
  have hx := Bd.exec
  have hb := Bd.bytes
  have hr := Bd.returns
  have hts := atoms_spec (ws := (jw yX14_beginDiagnostics cX14_beginDiagnostics 2 none)) Bd.pre
  have htw : ∀ w ∈ jWl, w.before _ s = true := fun w h => hts w (List.mem_cons_of_mem _ h)
  have hown : s.vm.findClass RX14 = some m.cls := findClass_of_methodNamed Bd.named
  have hlocks := Bd.notSynchronized
  obtain ⟨Q, hQ⟩ : ∃ Q, Q = MQ below (va_Qv (S := Unit) (fun u => True) (fun u t => jRt (dC, dI) B base G0 EX14_beginDiagnostics H0 [] t.heap) (jA base)) ([.ref r0, .ref r1] : List Value).toArray s 0 0 (jA base) := ⟨_, rfl⟩
  rw [← hQ]
  have hl := lv_entry ([.ref r0, .ref r1]) (n := 2) (Nat.le_of_ble_eq_true rfl)
  rw [lg_entry_eq]
  generalize (lg_sl ([.ref r0, .ref r1]) ++ List.replicate (2 - (lg_sl ([.ref r0, .ref r1])).length) Slot.unset).toArray = ls at hl ⊢
  have hl : lv_has ls 2 [(0, .ref r0), (1, .ref r1)] := hl
  generalize hR : (headSpec (jw yX14_beginDiagnostics cX14_beginDiagnostics 2 none) ({ frames := 12, cells := 0, slots := 0, locals := 462 })).room = R
  subst hH0
  have hh : jSt (dC, dI) B base G0 G0 EX14_beginDiagnostics s.heap 0 0 [] [] [] s.heap [] := jSt.start hX hP0 jMc.nil jIs.nil
  clear hX hP0
  have hk0 : (0 : Int32).toInt = 0 := by decide
  have hk1 : (1 : Int32).toInt = 1 := by decide
  have hly_14_0 := htw (u_lay RX12 TX12 0) (jWc_wsX120 _ (u_in_lay (by decide)))
  have hly_14_1 := htw (u_lay RX12 TX12 1) (jWc_wsX120 _ (u_in_lay (by decide)))
  have hly_14_2 := htw (u_lay RX12 TX12 2) (jWc_wsX120 _ (u_in_lay (by decide)))
  have hly_16_6 := htw (u_lay RX14 TX14 6) (jWc_wsX140 _ (u_in_lay (by decide)))
  have hlk_160 := (htw (.fieldLink RX14 160 "ProofServerModel" "framed" "I") (jWr_53 _ (List.mem_of_getElem? (i := 18) rfl)))
  obtain ⟨str722, rstr722, hstr7220⟩ := hG.str (o := RX14) (k := 722) (tx := "{\"jsonrpc\":\"2.0\",\"method\":\"textDocument/publishDiagnostics\",\"params\":{\"uri\":") (List.mem_of_getElem? (i := 2523) (by decide +kernel))
  have hstr722 : jStr base str722 76 s s.heap := hstr7220
  have hlk_511 := (va_Nw.use (A := ([.ref r0, .ref r1] : List Value).toArray) rfl (hG.2.1 RX14 511 "ProofServerModel$Document" "uri" "[I" "ProofServerModel" (List.mem_of_getElem? (i := 1731) (by decide +kernel))))
  have hlk_508 := (va_Nw.use (A := ([.ref r0, .ref r1] : List Value).toArray) rfl (hG.2.1 RX14 508 "ProofServerModel$Document" "uriLength" "I" "ProofServerModel" (List.mem_of_getElem? (i := 1732) (by decide +kernel))))
  obtain ⟨str724, rstr724, hstr7240⟩ := hG.str (o := RX14) (k := 724) (tx := ",\"version\":") (List.mem_of_getElem? (i := 2524) (by decide +kernel))
  have hstr724 : jStr base str724 11 s s.heap := hstr7240
  have hlk_524 := (va_Nw.use (A := ([.ref r0, .ref r1] : List Value).toArray) rfl (hG.2.1 RX14 524 "ProofServerModel$Document" "version" "I" "ProofServerModel" (List.mem_of_getElem? (i := 1733) (by decide +kernel))))
  obtain ⟨str726, rstr726, hstr7260⟩ := hG.str (o := RX14) (k := 726) (tx := ",\"diagnostics\":[") (List.mem_of_getElem? (i := 2525) (by decide +kernel))
  have hstr726 : jStr base str726 16 s s.heap := hstr7260
  refine lv_aload_n hx hb dX14_beginDiagnostics_0 rfl (lv_at hl 0 rfl) ?_
  refine lv_iconst (v := 0) hx hb dX14_beginDiagnostics_1 (by decide) ?_
  refine j7_put hx hb hown hK hh hB hAp hB16 (C := RX14) (T := TX14) (N := 74) rfl (by decide) hg_r0 (i := 6) (by decide) hly_16_6 rfl hlk_160 rfl (ty := .int) (v := .int 0) (by decide +kernel) rfl rfl (⟨_, rfl, by omega, by omega⟩) rfl (L1 := []) [] rfl rfl rfl dX14_beginDiagnostics_2 (fun H_1 locs_1 hh_1 => ?_)
  clear hh
  refine lv_aload_n hx hb dX14_beginDiagnostics_5 rfl (lv_at hl 0 rfl) ?_
  refine j_ldcSw hx hb hown rstr722 dX14_beginDiagnostics_6 ?_
  refine va_callv (A0 := jA base) (H0 := s.heap) (va_runV (As := [.ref str722]) (rest := []) ⟨hx, hb, hml, hown, hts⟩ (uX14_word l dC dI ca base B hB hAp hB16 hB101 G0 H_1 r0 str722 76 0) (cwV 1 hts (jgV (jWr_53 _ (List.mem_of_getElem? (i := 22) rfl)) (jWr_53 _ (List.mem_of_getElem? (i := 23) rfl)) (jWr_54 _ (List.mem_of_getElem? (i := 0) rfl)) (jWr_1 _ (List.mem_of_getElem? (i := 5) rfl)) (jWr_54 _ (List.mem_of_getElem? (i := 1) rfl))) rfl rfl rfl (by decide +kernel) ⟨by rw [← hR]; exact Nat.le_of_ble_eq_true rfl, by rw [← hR]; exact Nat.le_of_ble_eq_true rfl⟩) ⟨fun a U g mk q => by obtain ⟨q0, q1, q2, qK, q10, q11, q12, q13⟩ := q; exact ⟨q0, q1, q2, jG.calling g mk a qK, (q10.moved (Vm.Alike.refl U.vm)), q11, q12, q13⟩, hh_1.recv (C := RX14) (T := TX14) (N := 74) hB16 rfl (by decide) hg_r0 hK, fun U hU hW => ⟨rfl, hU, hh_1.2.1, hG.step hW hU hh_1.1, (hstr722.moved hW.alike).kept hh_1.1.2.1, hg_r0, (hh_1.2.2.1.sub (L1 := [(r0, 16, 6, .int 0)]) [0] rfl), by first | omega | (refine ⟨?_, ?_, ?_⟩ <;> (first | omega | rfl | assumption | decide | exact Or.inl rfl | exact Or.inr rfl | (simp only; omega)))⟩⟩ rfl rfl hl.1 rfl (lv_room (Nat.le_of_ble_eq_true rfl)) dX14_beginDiagnostics_9 ⟨Nat.zero_le _, Nat.zero_le _⟩) hh_1.1 (fun q _ h => h) (fun q h => h) (fun u_2 t_2 H_2 locs_2 ht_2 hvm_2 hr_3 hb_2 hz_2 hk_2 hS_2 => ?_)
  obtain ⟨qf_2, rfl⟩ : ∃ z, z = u_2 := ⟨_, rfl⟩
  rw [ht_2] at hb_2
  obtain ⟨hb_21, hb_22, hb_23, hb_24, hb_25⟩ := hb_2
  have hh_2 : jSt (dC, dI) B base G0 G0 EX14_beginDiagnostics s.heap 0 0 [(r0, 16, 6, .int qf_2)] [] [] H_2 locs_2 := ((hh_1.call hb_21 hb_22 hb_23 hb_24 hS_2 rfl (L1 := []) [] rfl rfl (M1 := []) [] rfl rfl (I1 := []) [] rfl rfl).more hb_25)
  clear hh_1 ht_2 hvm_2 hz_2 hk_2 hS_2 hb_21 hb_22 hb_23 hb_24 hb_25
  obtain ⟨hr_3_0, hr_3_1⟩ := hr_3
  refine lv_aload_n hx hb dX14_beginDiagnostics_12 rfl (lv_at hl 0 rfl) ?_
  refine lv_aload_n hx hb dX14_beginDiagnostics_13 rfl (lv_at hl 1 rfl) ?_
  obtain ⟨v_4, hv_4, hh_5⟩ := hh_2.pin (C := RX12) (T := TX12) (N := 11) hB14 rfl (by decide) hg_r1 (i := 0) (by decide) rfl
  clear hh_2
  obtain ⟨uri_6, rfl, hg_uri_6⟩ := hv_4
  refine j7_readN hx hb hown hK (C := RX12) (T := TX12) (N := 11) rfl hly_14_0 hlk_511 (hh_5.at 0 rfl) dX14_beginDiagnostics_14 ?_
  refine lv_iconst (v := 0) hx hb dX14_beginDiagnostics_17 (by decide) ?_
  refine lv_aload_n hx hb dX14_beginDiagnostics_18 rfl (lv_at hl 1 rfl) ?_
  obtain ⟨v_7, hv_7, hh_8⟩ := hh_5.pin (C := RX12) (T := TX12) (N := 11) hB14 rfl (by decide) hg_r1 (i := 1) (by decide) rfl
  clear hh_5
  obtain ⟨uriLength_9, rfl, hlouriLength_9, hhiuriLength_9⟩ := hv_7
  refine j7_readN hx hb hown hK (C := RX12) (T := TX12) (N := 11) rfl hly_14_1 hlk_508 (hh_8.at 0 rfl) dX14_beginDiagnostics_19 ?_
  refine va_callv (A0 := jA base) (H0 := s.heap) (va_runV (As := [.ref uri_6, .int 0, .int uriLength_9]) (rest := []) ⟨hx, hb, hml, hown, hts⟩ (uX14_stringw9 l dC dI ca base B hB hAp hB16 hB101 hB195 G0 H_2 r0 uri_6 0 uriLength_9 40 qf_2) (cwV 3 hts (jgV (jWr_54 _ (List.mem_of_getElem? (i := 6) rfl)) (jWr_54 _ (List.mem_of_getElem? (i := 7) rfl)) (jWr_54 _ (List.mem_of_getElem? (i := 8) rfl)) (jWr_1 _ (List.mem_of_getElem? (i := 5) rfl)) (jWr_54 _ (List.mem_of_getElem? (i := 9) rfl))) rfl rfl rfl (by decide +kernel) ⟨by rw [← hR]; exact Nat.le_of_ble_eq_true rfl, by rw [← hR]; exact Nat.le_of_ble_eq_true rfl⟩) ⟨fun a U g mk q => by obtain ⟨q0, q1, q2, qK, q10, q11, q12, q13⟩ := q; exact ⟨q0, q1, q2, jG.calling g mk a qK, q10, q11, q12, q13⟩, hh_8.recv (C := RX14) (T := TX14) (N := 74) hB16 rfl (by decide) hg_r0 hK, fun U hU hW => ⟨rfl, hU, hh_8.2.1, hG.step hW hU hh_8.1, hg_uri_6, hg_r0, (hh_8.2.2.1.sub (L1 := [(r0, 16, 6, .int qf_2)]) [2] rfl), by first | omega | (refine ⟨?_, ?_, ?_, ?_, ?_⟩ <;> (first | omega | rfl | assumption | decide | exact Or.inl rfl | exact Or.inr rfl | (simp only; omega)))⟩⟩ rfl rfl hl.1 rfl (lv_room (Nat.le_of_ble_eq_true rfl)) dX14_beginDiagnostics_22 ⟨Nat.zero_le _, Nat.zero_le _⟩) hh_8.1 (fun q _ h => h) (fun q h => h) (fun u_10 t_10 H_10 locs_10 ht_10 hvm_10 hr_11 hb_10 hz_10 hk_10 hS_10 => ?_)
  obtain ⟨qf_10, rfl⟩ : ∃ z, z = u_10 := ⟨_, rfl⟩
  rw [ht_10] at hb_10
  obtain ⟨hb_101, hb_102, hb_103, hb_104, hb_105⟩ := hb_10
  have hh_10 : jSt (dC, dI) B base G0 G0 EX14_beginDiagnostics s.heap 0 0 [(r0, 16, 6, .int qf_10), (r1, 14, 1, .int uriLength_9), (r1, 14, 0, .ref uri_6)] [] [] H_10 locs_10 := ((hh_8.call hb_101 hb_102 hb_103 hb_104 hS_10 rfl (L1 := [(r1, 14, 1, .int uriLength_9), (r1, 14, 0, .ref uri_6)]) [0, 1] rfl rfl (M1 := []) [] rfl rfl (I1 := []) [] rfl rfl).more hb_105)
  clear hh_8 ht_10 hvm_10 hz_10 hk_10 hS_10 hb_101 hb_102 hb_103 hb_104 hb_105
  obtain ⟨hr_11_0, hr_11_1⟩ := hr_11
  refine lv_aload_n hx hb dX14_beginDiagnostics_25 rfl (lv_at hl 0 rfl) ?_
  refine j_ldcSw hx hb hown rstr724 dX14_beginDiagnostics_26 ?_
  refine va_callv (A0 := jA base) (H0 := s.heap) (va_runV (As := [.ref str724]) (rest := []) ⟨hx, hb, hml, hown, hts⟩ (uX14_word l dC dI ca base B hB hAp hB16 hB101 G0 H_10 r0 str724 11 qf_10) (cwV 1 hts (jgV (jWr_53 _ (List.mem_of_getElem? (i := 22) rfl)) (jWr_53 _ (List.mem_of_getElem? (i := 23) rfl)) (jWr_54 _ (List.mem_of_getElem? (i := 0) rfl)) (jWr_1 _ (List.mem_of_getElem? (i := 5) rfl)) (jWr_54 _ (List.mem_of_getElem? (i := 1) rfl))) rfl rfl rfl (by decide +kernel) ⟨by rw [← hR]; exact Nat.le_of_ble_eq_true rfl, by rw [← hR]; exact Nat.le_of_ble_eq_true rfl⟩) ⟨fun a U g mk q => by obtain ⟨q0, q1, q2, qK, q10, q11, q12, q13⟩ := q; exact ⟨q0, q1, q2, jG.calling g mk a qK, (q10.moved (Vm.Alike.refl U.vm)), q11, q12, q13⟩, hh_10.recv (C := RX14) (T := TX14) (N := 74) hB16 rfl (by decide) hg_r0 hK, fun U hU hW => ⟨rfl, hU, hh_10.2.1, hG.step hW hU hh_10.1, (hstr724.moved hW.alike).kept hh_10.1.2.1, hg_r0, (hh_10.2.2.1.sub (L1 := [(r0, 16, 6, .int qf_10)]) [0] rfl), by first | omega | (refine ⟨?_, ?_, ?_⟩ <;> (first | omega | rfl | assumption | decide | exact Or.inl rfl | exact Or.inr rfl | (simp only; omega)))⟩⟩ rfl rfl hl.1 rfl (lv_room (Nat.le_of_ble_eq_true rfl)) dX14_beginDiagnostics_29 ⟨Nat.zero_le _, Nat.zero_le _⟩) hh_10.1 (fun q _ h => h) (fun q h => h) (fun u_12 t_12 H_12 locs_12 ht_12 hvm_12 hr_13 hb_12 hz_12 hk_12 hS_12 => ?_)
  obtain ⟨qf_12, rfl⟩ : ∃ z, z = u_12 := ⟨_, rfl⟩
  rw [ht_12] at hb_12
  obtain ⟨hb_121, hb_122, hb_123, hb_124, hb_125⟩ := hb_12
  have hh_12 : jSt (dC, dI) B base G0 G0 EX14_beginDiagnostics s.heap 0 0 [(r0, 16, 6, .int qf_12), (r1, 14, 1, .int uriLength_9), (r1, 14, 0, .ref uri_6)] [] [] H_12 locs_12 := ((hh_10.call hb_121 hb_122 hb_123 hb_124 hS_12 rfl (L1 := [(r1, 14, 1, .int uriLength_9), (r1, 14, 0, .ref uri_6)]) [1, 2] rfl rfl (M1 := []) [] rfl rfl (I1 := []) [] rfl rfl).more hb_125)
  clear hh_10 ht_12 hvm_12 hz_12 hk_12 hS_12 hb_121 hb_122 hb_123 hb_124 hb_125
  obtain ⟨hr_13_0, hr_13_1⟩ := hr_13
  refine lv_aload_n hx hb dX14_beginDiagnostics_32 rfl (lv_at hl 0 rfl) ?_
  refine lv_aload_n hx hb dX14_beginDiagnostics_33 rfl (lv_at hl 1 rfl) ?_
  obtain ⟨v_14, hv_14, hh_15⟩ := hh_12.pin (C := RX12) (T := TX12) (N := 11) hB14 rfl (by decide) hg_r1 (i := 2) (by decide) rfl
  clear hh_12
  obtain ⟨version_16, rfl⟩ := hv_14
  refine j7_readN hx hb hown hK (C := RX12) (T := TX12) (N := 11) rfl hly_14_2 hlk_524 (hh_15.at 0 rfl) dX14_beginDiagnostics_34 ?_
  refine va_callv (A0 := jA base) (H0 := s.heap) (va_runV (As := [.int version_16]) (rest := []) ⟨hx, hb, hml, hown, hts⟩ (uX14_number l dC dI ca base B hB hAp hB16 hB101 G0 H_12 r0 version_16 qf_12) (cwV 1 hts (jgV (jWr_54 _ (List.mem_of_getElem? (i := 18) rfl)) (jWr_54 _ (List.mem_of_getElem? (i := 19) rfl)) (jWr_54 _ (List.mem_of_getElem? (i := 20) rfl)) (jWr_1 _ (List.mem_of_getElem? (i := 5) rfl)) (jWr_54 _ (List.mem_of_getElem? (i := 21) rfl))) rfl rfl rfl (by decide +kernel) ⟨by rw [← hR]; exact Nat.le_of_ble_eq_true rfl, by rw [← hR]; exact Nat.le_of_ble_eq_true rfl⟩) ⟨fun a U g mk q => by obtain ⟨q0, q1, q2, qK, q10, q11, q12⟩ := q; exact ⟨q0, q1, q2, jG.calling g mk a qK, q10, q11, q12⟩, hh_15.recv (C := RX14) (T := TX14) (N := 74) hB16 rfl (by decide) hg_r0 hK, fun U hU hW => ⟨rfl, hU, hh_15.2.1, hG.step hW hU hh_15.1, hg_r0, (hh_15.2.2.1.sub (L1 := [(r0, 16, 6, .int qf_12)]) [1] rfl), by first | omega | (refine ⟨?_, ?_⟩ <;> (first | omega | rfl | assumption | decide | exact Or.inl rfl | exact Or.inr rfl | (simp only; omega)))⟩⟩ rfl rfl hl.1 rfl (lv_room (Nat.le_of_ble_eq_true rfl)) dX14_beginDiagnostics_37 ⟨Nat.zero_le _, Nat.zero_le _⟩) hh_15.1 (fun q _ h => h) (fun q h => h) (fun u_17 t_17 H_17 locs_17 ht_17 hvm_17 hr_18 hb_17 hz_17 hk_17 hS_17 => ?_)
  obtain ⟨qf_17, rfl⟩ : ∃ z, z = u_17 := ⟨_, rfl⟩
  rw [ht_17] at hb_17
  obtain ⟨hb_171, hb_172, hb_173, hb_174, hb_175⟩ := hb_17
  have hh_17 : jSt (dC, dI) B base G0 G0 EX14_beginDiagnostics s.heap 0 0 [(r0, 16, 6, .int qf_17), (r1, 14, 2, .int version_16), (r1, 14, 1, .int uriLength_9), (r1, 14, 0, .ref uri_6)] [] [] H_17 locs_17 := ((hh_15.call hb_171 hb_172 hb_173 hb_174 hS_17 rfl (L1 := [(r1, 14, 2, .int version_16), (r1, 14, 1, .int uriLength_9), (r1, 14, 0, .ref uri_6)]) [0, 2, 3] rfl rfl (M1 := []) [] rfl rfl (I1 := []) [] rfl rfl).more hb_175)
  clear hh_15 ht_17 hvm_17 hz_17 hk_17 hS_17 hb_171 hb_172 hb_173 hb_174 hb_175
  obtain ⟨hr_18_0, hr_18_1⟩ := hr_18
  refine lv_aload_n hx hb dX14_beginDiagnostics_40 rfl (lv_at hl 0 rfl) ?_
  refine j_ldcSw hx hb hown rstr726 dX14_beginDiagnostics_41 ?_
  refine va_callv (A0 := jA base) (H0 := s.heap) (va_runV (As := [.ref str726]) (rest := []) ⟨hx, hb, hml, hown, hts⟩ (uX14_word l dC dI ca base B hB hAp hB16 hB101 G0 H_17 r0 str726 16 qf_17) (cwV 1 hts (jgV (jWr_53 _ (List.mem_of_getElem? (i := 22) rfl)) (jWr_53 _ (List.mem_of_getElem? (i := 23) rfl)) (jWr_54 _ (List.mem_of_getElem? (i := 0) rfl)) (jWr_1 _ (List.mem_of_getElem? (i := 5) rfl)) (jWr_54 _ (List.mem_of_getElem? (i := 1) rfl))) rfl rfl rfl (by decide +kernel) ⟨by rw [← hR]; exact Nat.le_of_ble_eq_true rfl, by rw [← hR]; exact Nat.le_of_ble_eq_true rfl⟩) ⟨fun a U g mk q => by obtain ⟨q0, q1, q2, qK, q10, q11, q12, q13⟩ := q; exact ⟨q0, q1, q2, jG.calling g mk a qK, (q10.moved (Vm.Alike.refl U.vm)), q11, q12, q13⟩, hh_17.recv (C := RX14) (T := TX14) (N := 74) hB16 rfl (by decide) hg_r0 hK, fun U hU hW => ⟨rfl, hU, hh_17.2.1, hG.step hW hU hh_17.1, (hstr726.moved hW.alike).kept hh_17.1.2.1, hg_r0, (hh_17.2.2.1.sub (L1 := [(r0, 16, 6, .int qf_17)]) [0] rfl), by first | omega | (refine ⟨?_, ?_, ?_⟩ <;> (first | omega | rfl | assumption | decide | exact Or.inl rfl | exact Or.inr rfl | (simp only; omega)))⟩⟩ rfl rfl hl.1 rfl (lv_room (Nat.le_of_ble_eq_true rfl)) dX14_beginDiagnostics_44 ⟨Nat.zero_le _, Nat.zero_le _⟩) hh_17.1 (fun q _ h => h) (fun q h => h) (fun u_19 t_19 H_19 locs_19 ht_19 hvm_19 hr_20 hb_19 hz_19 hk_19 hS_19 => ?_)
  obtain ⟨qf_19, rfl⟩ : ∃ z, z = u_19 := ⟨_, rfl⟩
  rw [ht_19] at hb_19
  obtain ⟨hb_191, hb_192, hb_193, hb_194, hb_195⟩ := hb_19
  have hh_19 : jSt (dC, dI) B base G0 G0 EX14_beginDiagnostics s.heap 0 0 [(r0, 16, 6, .int qf_19), (r1, 14, 2, .int version_16), (r1, 14, 1, .int uriLength_9), (r1, 14, 0, .ref uri_6)] [] [] H_19 locs_19 := ((hh_17.call hb_191 hb_192 hb_193 hb_194 hS_19 rfl (L1 := [(r1, 14, 2, .int version_16), (r1, 14, 1, .int uriLength_9), (r1, 14, 0, .ref uri_6)]) [1, 2, 3] rfl rfl (M1 := []) [] rfl rfl (I1 := []) [] rfl rfl).more hb_195)
  clear hh_17 ht_19 hvm_19 hz_19 hk_19 hS_19 hb_191 hb_192 hb_193 hb_194 hb_195
  obtain ⟨hr_20_0, hr_20_1⟩ := hr_20
  rw [hQ]
  exact W.vret hx hb hr (fun t ht hW => ⟨⟨(), rfl, trivial, hh_19.rt (M1 := []) [] rfl ht⟩, by rw [ht]; try exact hh_19.1.1, fun q h9 hq => by rw [ht]; try exact hh_19.1.2.1 q h9 hq⟩) hh_19.1.2.2 dX14_beginDiagnostics_47
set_option maxHeartbeats 4000000 in
set_option maxRecDepth 20000 in
theorem uX14_endDiagnostics (l : Launch) (dC : Nat → ClassId) (dI : Nat → Nat → Nat) (ca : Nat → ClassId) (base : Nat) (B : jF) (hB : jBok B) (hAp : jAp (dC, dI)) (hB16 : ∀ n G a H, B 16 n G a H ↔ jOb (dC, dI) 16 74 (F16 n G) a H) (hB101 : ∀ n G a H, B 101 n G a H ↔ jAr (dC, dI) (ca 1) (fun j z => True) n a H) (G0 : jT) (H0 : Heap) (r0 : Nat) : Met l yX14_endDiagnostics (jw yX14_endDiagnostics cX14_endDiagnostics 1 none) ({ frames := 13, cells := 0, slots := 0, locals := 485 }) (va_Pc [.ref r0] (fun U => U.heap = H0 ∧ jX B base G0 [] H0 ∧ jG dC dI ca base U ∧ G0 r0 = some (16, 0) ∧ jP (dC, dI) G0 H0 [] ∧ True)) (va_Qv (S := Unit) (fun u => True) (fun u t => jRt (dC, dI) B base G0 EX14_endDiagnostics H0 [] t.heap) (jA base)) 0 0 (jA base) := by
  refine Met.ofW (cc := cX14_endDiagnostics) (maxL := 1) (ret := none) (by decide) rfl ?_
  intro p e s m args below meth c s₁ Bd hml hv
  obtain ⟨rfl, hH0, hX, hG, hg_r0, hP0, hp0⟩ := hv
  have hK := hG.1
  have hx := Bd.exec
  have hb := Bd.bytes
  have hr := Bd.returns
  have hts := atoms_spec (ws := (jw yX14_endDiagnostics cX14_endDiagnostics 1 none)) Bd.pre
  have htw : ∀ w ∈ jWl, w.before _ s = true := fun w h => hts w (List.mem_cons_of_mem _ h)
  have hown : s.vm.findClass RX14 = some m.cls := findClass_of_methodNamed Bd.named
  have hlocks := Bd.notSynchronized
  obtain ⟨Q, hQ⟩ : ∃ Q, Q = MQ below (va_Qv (S := Unit) (fun u => True) (fun u t => jRt (dC, dI) B base G0 EX14_endDiagnostics H0 [] t.heap) (jA base)) ([.ref r0] : List Value).toArray s 0 0 (jA base) := ⟨_, rfl⟩
  rw [← hQ]
  have hl := lv_entry ([.ref r0]) (n := 1) (Nat.le_of_ble_eq_true rfl)
  rw [lg_entry_eq]
  generalize (lg_sl ([.ref r0]) ++ List.replicate (1 - (lg_sl ([.ref r0])).length) Slot.unset).toArray = ls at hl ⊢
  have hl : lv_has ls 1 [(0, .ref r0)] := hl
  generalize hR : (headSpec (jw yX14_endDiagnostics cX14_endDiagnostics 1 none) ({ frames := 13, cells := 0, slots := 0, locals := 485 })).room = R
  subst hH0
  have hh : jSt (dC, dI) B base G0 G0 EX14_endDiagnostics s.heap 0 0 [] [] [] s.heap [] := jSt.start hX hP0 jMc.nil jIs.nil
  clear hX hP0
  have hk0 : (0 : Int32).toInt = 0 := by decide
  have hk1 : (1 : Int32).toInt = 1 := by decide
  obtain ⟨str728, rstr728, hstr7280⟩ := hG.str (o := RX14) (k := 728) (tx := "]}}") (List.mem_of_getElem? (i := 2554) (by decide +kernel))
  have hstr728 : jStr base str728 3 s s.heap := hstr7280
  refine lv_aload_n hx hb dX14_endDiagnostics_0 rfl (lv_at hl 0 rfl) ?_
  refine j_ldcSw hx hb hown rstr728 dX14_endDiagnostics_1 ?_
  obtain ⟨v_3, hv_3, hh_4⟩ := hh.pin (C := RX14) (T := TX14) (N := 74) hB16 rfl (by decide) hg_r0 (i := 6) (by decide) rfl
  obtain ⟨framed_5, rfl, hloframed_5, hhiframed_5⟩ := hv_3
  refine va_callv (A0 := jA base) (H0 := s.heap) (va_runV (As := [.ref str728]) (rest := []) ⟨hx, hb, hml, hown, hts⟩ (uX14_word l dC dI ca base B hB hAp hB16 hB101 G0 s.heap r0 str728 3 framed_5) (cwV 1 hts (jgV (jWr_53 _ (List.mem_of_getElem? (i := 22) rfl)) (jWr_53 _ (List.mem_of_getElem? (i := 23) rfl)) (jWr_54 _ (List.mem_of_getElem? (i := 0) rfl)) (jWr_1 _ (List.mem_of_getElem? (i := 5) rfl)) (jWr_54 _ (List.mem_of_getElem? (i := 1) rfl))) rfl rfl rfl (by decide +kernel) ⟨by rw [← hR]; exact Nat.le_of_ble_eq_true rfl, by rw [← hR]; exact Nat.le_of_ble_eq_true rfl⟩) ⟨fun a U g mk q => by obtain ⟨q0, q1, q2, qK, q10, q11, q12, q13⟩ := q; exact ⟨q0, q1, q2, jG.calling g mk a qK, (q10.moved (Vm.Alike.refl U.vm)), q11, q12, q13⟩, hh_4.recv (C := RX14) (T := TX14) (N := 74) hB16 rfl (by decide) hg_r0 hK, fun U hU hW => ⟨rfl, hU, hh_4.2.1, hG.step hW hU hh_4.1, (hstr728.moved hW.alike).kept hh_4.1.2.1, hg_r0, (hh_4.2.2.1.sub (L1 := [(r0, 16, 6, .int framed_5)]) [0] rfl), by first | omega | (refine ⟨?_, ?_, ?_⟩ <;> (first | omega | rfl | assumption | decide | exact Or.inl rfl | exact Or.inr rfl | (simp only; omega)))⟩⟩ rfl rfl hl.1 rfl (lv_room (Nat.le_of_ble_eq_true rfl)) dX14_endDiagnostics_4 ⟨Nat.zero_le _, Nat.zero_le _⟩) hh_4.1 (fun q _ h => h) (fun q h => h) (fun u_1 t_1 H_1 locs_1 ht_1 hvm_1 hr_2 hb_1 hz_1 hk_1 hS_1 => ?_)
  obtain ⟨qf_1, rfl⟩ : ∃ z, z = u_1 := ⟨_, rfl⟩
  rw [ht_1] at hb_1
  obtain ⟨hb_11, hb_12, hb_13, hb_14, hb_15⟩ := hb_1
  have hh_1 : jSt (dC, dI) B base G0 G0 EX14_endDiagnostics s.heap 0 0 [(r0, 16, 6, .int qf_1)] [] [] H_1 locs_1 := ((hh_4.call hb_11 hb_12 hb_13 hb_14 hS_1 rfl (L1 := []) [] rfl rfl (M1 := []) [] rfl rfl (I1 := []) [] rfl rfl).more hb_15)
  clear hh_4 ht_1 hvm_1 hz_1 hk_1 hS_1 hb_11 hb_12 hb_13 hb_14 hb_15
  obtain ⟨hr_2_0, hr_2_1⟩ := hr_2
  refine lv_aload_n hx hb dX14_endDiagnostics_7 rfl (lv_at hl 0 rfl) ?_
  refine va_callv (A0 := jA base) (H0 := s.heap) (va_runV (As := []) (rest := []) ⟨hx, hb, hml, hown, hts⟩ (uX14_send l dC dI ca base B hB hAp hB16 hB101 G0 H_1 r0) (cwV 0 hts (jgV (jWr_55 _ (List.mem_of_getElem? (i := 10) rfl)) (jWr_55 _ (List.mem_of_getElem? (i := 11) rfl)) (jWr_55 _ (List.mem_of_getElem? (i := 12) rfl)) (jWr_1 _ (List.mem_of_getElem? (i := 5) rfl)) (jWr_55 _ (List.mem_of_getElem? (i := 13) rfl))) rfl rfl rfl (by decide +kernel) ⟨by rw [← hR]; exact Nat.le_of_ble_eq_true rfl, by rw [← hR]; exact Nat.le_of_ble_eq_true rfl⟩) ⟨fun a U g mk q => by obtain ⟨q0, q1, q2, qK, q10, q11, q12⟩ := q; exact ⟨q0, q1, q2, jG.calling g mk a qK, q10, q11, q12⟩, hh_1.recv (C := RX14) (T := TX14) (N := 74) hB16 rfl (by decide) hg_r0 hK, fun U hU hW => ⟨rfl, hU, hh_1.2.1, hG.step hW hU hh_1.1, hg_r0, jP.nil, trivial⟩⟩ rfl rfl hl.1 rfl (lv_room (Nat.le_of_ble_eq_true rfl)) dX14_endDiagnostics_8 ⟨Nat.zero_le _, Nat.zero_le _⟩) hh_1.1 (fun q _ h => h) (fun q h => h) (fun u_6 t_6 H_6 locs_6 ht_6 hvm_6 hr_7 hb_6 hz_6 hk_6 hS_6 => ?_)
  rw [ht_6] at hb_6
  obtain ⟨hb_61, hb_62, hb_63, hb_64, hb_65⟩ := hb_6
  have hh_6 : jSt (dC, dI) B base G0 G0 EX14_endDiagnostics s.heap 0 0 [] [] [] H_6 locs_6 := ((hh_1.call hb_61 hb_62 hb_63 hb_64 hS_6 rfl (L1 := []) [] rfl rfl (M1 := []) [] rfl rfl (I1 := []) [] rfl rfl).more hb_65)
  clear hh_1 ht_6 hvm_6 hz_6 hk_6 hS_6 hb_61 hb_62 hb_63 hb_64 hb_65
  rw [hQ]
  exact W.vret hx hb hr (fun t ht hW => ⟨⟨(), rfl, trivial, hh_6.rt (M1 := []) [] rfl ht⟩, by rw [ht]; try exact hh_6.1.1, fun q h9 hq => by rw [ht]; try exact hh_6.1.2.1 q h9 hq⟩) hh_6.1.2.2 dX14_endDiagnostics_11
set_option maxHeartbeats 4000000 in
set_option maxRecDepth 20000 in
theorem uX14_putLine (l : Launch) (dC : Nat → ClassId) (dI : Nat → Nat → Nat) (ca : Nat → ClassId) (base : Nat) (B : jF) (hB : jBok B) (hAp : jAp (dC, dI)) (hB15 : ∀ n G a H, B 15 n G a H ↔ jOb (dC, dI) 15 50 (F15 n G) a H) (hB16 : ∀ n G a H, B 16 n G a H ↔ jOb (dC, dI) 16 74 (F16 n G) a H) (hB101 : ∀ n G a H, B 101 n G a H ↔ jAr (dC, dI) (ca 1) (fun j z => True) n a H) (G0 : jT) (H0 : Heap) (r0 : Nat) (a1 : Int32) : Met l yX14_putLine (jw yX14_putLine cX14_putLine 2 none) ({ frames := 6, cells := 0, slots := 0, locals := 189 }) (va_Pc [.ref r0, .int a1] (fun U => U.heap = H0 ∧ jX B base G0 [] H0 ∧ jG dC dI ca base U ∧ G0 r0 = some (16, 0) ∧ jP (dC, dI) G0 H0 [] ∧ 0 ≤ a1.toInt ∧ a1.toInt ≤ 100000)) (va_Qv (S := Unit) (fun u => True) (fun u t => jRt (dC, dI) B base G0 EX14_putLine H0 [] t.heap) (jA base)) 0 0 (jA base) := by
  refine Met.ofW (cc := cX14_putLine) (maxL := 2) (ret := none) (by decide) rfl ?_
  intro p e s m args below meth c s₁ Bd hml hv
  obtain ⟨rfl, hH0, hX, hG, hg_r0, hP0, hp0, hp1⟩ := hv
  have hK := hG.1
  have hx := Bd.exec
  have hb := Bd.bytes
  have hr := Bd.returns
  have hts := atoms_spec (ws := (jw yX14_putLine cX14_putLine 2 none)) Bd.pre
  have htw : ∀ w ∈ jWl, w.before _ s = true := fun w h => hts w (List.mem_cons_of_mem _ h)
  have hown : s.vm.findClass RX14 = some m.cls := findClass_of_methodNamed Bd.named
  have hlocks := Bd.notSynchronized
  obtain ⟨Q, hQ⟩ : ∃ Q, Q = MQ below (va_Qv (S := Unit) (fun u => True) (fun u t => jRt (dC, dI) B base G0 EX14_putLine H0 [] t.heap) (jA base)) ([.ref r0, .int a1] : List Value).toArray s 0 0 (jA base) := ⟨_, rfl⟩
  rw [← hQ]
  have hl := lv_entry ([.ref r0, .int a1]) (n := 2) (Nat.le_of_ble_eq_true rfl)
  rw [lg_entry_eq]
  generalize (lg_sl ([.ref r0, .int a1]) ++ List.replicate (2 - (lg_sl ([.ref r0, .int a1])).length) Slot.unset).toArray = ls at hl ⊢
  have hl : lv_has ls 2 [(0, .ref r0), (1, .int a1)] := hl
  generalize hR : (headSpec (jw yX14_putLine cX14_putLine 2 none) ({ frames := 6, cells := 0, slots := 0, locals := 189 })).room = R
  subst hH0
  have hh : jSt (dC, dI) B base G0 G0 EX14_putLine s.heap 0 0 [] [] [] s.heap [] := jSt.start hX hP0 jMc.nil jIs.nil
  clear hX hP0
  have hk0 : (0 : Int32).toInt = 0 := by decide
  have hk1 : (1 : Int32).toInt = 1 := by decide
  have hly_15_45 := htw (u_lay RX13 TX13 45) (jWc_wsX130 _ (u_in_lay (by decide)))
  have hly_15_46 := htw (u_lay RX13 TX13 46) (jWc_wsX130 _ (u_in_lay (by decide)))
  have hly_16_58 := htw (u_lay RX14 TX14 58) (jWc_wsX140 _ (u_in_lay (by decide)))
  have hlk_122 := (htw (.fieldLink RX14 122 "ProofServerModel" "kernel" "LProofServerModel$Kernel;") (jWr_12 _ (List.mem_of_getElem? (i := 13) rfl)))
  have hlk_632 := (va_Nw.use (A := ([.ref r0, .int a1] : List Value).toArray) rfl (hG.2.1 RX14 632 "ProofServerModel$Kernel" "line" "[I" "ProofServerModel" (List.mem_of_getElem? (i := 1838) (by decide +kernel))))
  have hlk_634 := (va_Nw.use (A := ([.ref r0, .int a1] : List Value).toArray) rfl (hG.2.1 RX14 634 "ProofServerModel$Kernel" "lines" "I" "ProofServerModel" (List.mem_of_getElem? (i := 1840) (by decide +kernel))))
  have hrg_a1 := jb_rng a1
  refine lv_aload_n hx hb dX14_putLine_0 rfl (lv_at hl 0 rfl) ?_
  refine lv_aload_n hx hb dX14_putLine_1 rfl (lv_at hl 0 rfl) ?_
  obtain ⟨v_1, hv_1, hh_2⟩ := hh.pin (C := RX14) (T := TX14) (N := 74) hB16 rfl (by decide) hg_r0 (i := 58) (by decide) rfl
  clear hh
  obtain ⟨kernel_3, rfl, hg_kernel_3⟩ := hv_1
  refine j7_read hx hb hown hK (C := RX14) (T := TX14) (N := 74) rfl hly_16_58 hlk_122 (hh_2.at 0 rfl) dX14_putLine_2 ?_
  obtain ⟨v_4, hv_4, hh_5⟩ := hh_2.pin (C := RX13) (T := TX13) (N := 50) hB15 rfl (by decide) hg_kernel_3 (i := 45) (by decide) rfl
  clear hh_2
  obtain ⟨line_6, rfl, hg_line_6⟩ := hv_4
  refine j7_readN hx hb hown hK (C := RX13) (T := TX13) (N := 50) rfl hly_15_45 hlk_632 (hh_5.at 0 rfl) dX14_putLine_5 ?_
  refine lv_iload_n hx hb dX14_putLine_8 rfl (lv_at hl 1 rfl) ?_
  refine lv_aload_n hx hb dX14_putLine_9 rfl (lv_at hl 0 rfl) ?_
  refine j7_read hx hb hown hK (C := RX14) (T := TX14) (N := 74) rfl hly_16_58 hlk_122 (hh_5.at 1 rfl) dX14_putLine_10 ?_
  obtain ⟨v_7, hv_7, hh_8⟩ := hh_5.pin (C := RX13) (T := TX13) (N := 50) hB15 rfl (by decide) hg_kernel_3 (i := 46) (by decide) rfl
  clear hh_5
  obtain ⟨lines_9, rfl, hlolines_9, hhilines_9⟩ := hv_7
  refine j7_readN hx hb hown hK (C := RX13) (T := TX13) (N := 50) rfl hly_15_46 hlk_634 (hh_8.at 0 rfl) dX14_putLine_13 ?_
  obtain ⟨v_12, hv_12, hh_13⟩ := hh_8.pin (C := RX14) (T := TX14) (N := 74) hB16 rfl (by decide) hg_r0 (i := 6) (by decide) rfl
  obtain ⟨framed_14, rfl, hloframed_14, hhiframed_14⟩ := hv_12
  refine va_callv (A0 := jA base) (H0 := s.heap) (va_runV (As := [.ref line_6, .int a1, .int lines_9]) (rest := []) ⟨hx, hb, hml, hown, hts⟩ (uX14_string l dC dI ca base B hB hAp hB16 hB101 G0 s.heap r0 line_6 a1 lines_9 100000 framed_14) (cwV 3 hts (jgV (jWr_54 _ (List.mem_of_getElem? (i := 6) rfl)) (jWr_54 _ (List.mem_of_getElem? (i := 7) rfl)) (jWr_54 _ (List.mem_of_getElem? (i := 8) rfl)) (jWr_1 _ (List.mem_of_getElem? (i := 5) rfl)) (jWr_54 _ (List.mem_of_getElem? (i := 9) rfl))) rfl rfl rfl (by decide +kernel) ⟨by rw [← hR]; exact Nat.le_of_ble_eq_true rfl, by rw [← hR]; exact Nat.le_of_ble_eq_true rfl⟩) ⟨fun a U g mk q => by obtain ⟨q0, q1, q2, qK, q10, q11, q12, q13⟩ := q; exact ⟨q0, q1, q2, jG.calling g mk a qK, q10, q11, q12, q13⟩, hh_13.recv (C := RX14) (T := TX14) (N := 74) hB16 rfl (by decide) hg_r0 hK, fun U hU hW => ⟨rfl, hU, hh_13.2.1, hG.step hW hU hh_13.1, hg_line_6, hg_r0, (hh_13.2.2.1.sub (L1 := [(r0, 16, 6, .int framed_14)]) [0] rfl), by first | omega | (refine ⟨?_, ?_, ?_, ?_, ?_⟩ <;> (first | omega | rfl | assumption | decide | exact Or.inl rfl | exact Or.inr rfl | (simp only; omega)))⟩⟩ rfl rfl hl.1 rfl (lv_room (Nat.le_of_ble_eq_true rfl)) dX14_putLine_16 ⟨Nat.zero_le _, Nat.zero_le _⟩) hh_13.1 (fun q _ h => h) (fun q h => h) (fun u_10 t_10 H_10 locs_10 ht_10 hvm_10 hr_11 hb_10 hz_10 hk_10 hS_10 => ?_)
  obtain ⟨qf_10, rfl⟩ : ∃ z, z = u_10 := ⟨_, rfl⟩
  rw [ht_10] at hb_10
  obtain ⟨hb_101, hb_102, hb_103, hb_104, hb_105⟩ := hb_10
  have hh_10 : jSt (dC, dI) B base G0 G0 EX14_putLine s.heap 0 0 [(r0, 16, 6, .int qf_10), (kernel_3, 15, 46, .int lines_9), (kernel_3, 15, 45, .ref line_6), (r0, 16, 58, .ref kernel_3)] [] [] H_10 locs_10 := ((hh_13.call hb_101 hb_102 hb_103 hb_104 hS_10 rfl (L1 := [(kernel_3, 15, 46, .int lines_9), (kernel_3, 15, 45, .ref line_6), (r0, 16, 58, .ref kernel_3)]) [1, 2, 3] rfl rfl (M1 := []) [] rfl rfl (I1 := []) [] rfl rfl).more hb_105)
  clear hh_13 ht_10 hvm_10 hz_10 hk_10 hS_10 hb_101 hb_102 hb_103 hb_104 hb_105
  obtain ⟨hr_11_0, hr_11_1⟩ := hr_11
  refine lv_aload_n hx hb dX14_putLine_19 rfl (lv_at hl 0 rfl) ?_
  refine j7_read hx hb hown hK (C := RX14) (T := TX14) (N := 74) rfl hly_16_58 hlk_122 (hh_10.at 3 rfl) dX14_putLine_20 ?_
  refine lv_iload_n hx hb dX14_putLine_23 rfl (lv_at hl 1 rfl) ?_
  refine j7_putN hx hb hown hK hh_10 hB hAp hB15 (C := RX13) (T := TX13) (N := 50) rfl (by decide) hg_kernel_3 (i := 46) (by decide) hly_15_46 rfl hlk_634 rfl (ty := .int) (v := .int a1) (by decide +kernel) rfl rfl (⟨_, rfl, by omega, by omega⟩) rfl (L1 := [(r0, 16, 6, .int qf_10), (kernel_3, 15, 45, .ref line_6), (r0, 16, 58, .ref kernel_3)]) [0, 2, 3] rfl rfl rfl dX14_putLine_24 (fun H_15 locs_15 hh_15 => ?_)
  clear hh_10
  rw [hQ]
  exact W.vret hx hb hr (fun t ht hW => ⟨⟨(), rfl, trivial, hh_15.rt (M1 := []) [] rfl ht⟩, by rw [ht]; try exact hh_15.1.1, fun q h9 hq => by rw [ht]; try exact hh_15.1.2.1 q h9 hq⟩) hh_15.1.2.2 dX14_putLine_27
end
section
theorem dX14_release_0 : decode cX14_release 0 = .ok (.aload_n 0, 1) := by decide +kernel
theorem dX14_release_1 : decode cX14_release 1 = .ok (.iconst 0, 1) := by decide +kernel
theorem dX14_release_2 : decode cX14_release 2 = .ok (.putfield 374, 3) := by decide +kernel
theorem dX14_release_5 : decode cX14_release 5 = .ok (.aload_n 0, 1) := by decide +kernel
theorem dX14_release_6 : decode cX14_release 6 = .ok (.aload_n 0, 1) := by decide +kernel
theorem dX14_release_7 : decode cX14_release 7 = .ok (.getfield 100, 3) := by decide +kernel
theorem dX14_release_10 : decode cX14_release 10 = .ok (.iload_n 1, 1) := by decide +kernel
theorem dX14_release_11 : decode cX14_release 11 = .ok (.baload, 1) := by decide +kernel
theorem dX14_release_12 : decode cX14_release 12 = .ok (.putfield 377, 3) := by decide +kernel
theorem dX14_release_15 : decode cX14_release 15 = .ok (.aload_n 0, 1) := by decide +kernel
theorem dX14_release_16 : decode cX14_release 16 = .ok (.aload_n 0, 1) := by decide +kernel
theorem dX14_release_17 : decode cX14_release 17 = .ok (.getfield 103, 3) := by decide +kernel
theorem dX14_release_20 : decode cX14_release 20 = .ok (.iload_n 1, 1) := by decide +kernel
theorem dX14_release_21 : decode cX14_release 21 = .ok (.iaload, 1) := by decide +kernel
theorem dX14_release_22 : decode cX14_release 22 = .ok (.putfield 380, 3) := by decide +kernel
theorem dX14_release_25 : decode cX14_release 25 = .ok (.aload_n 0, 1) := by decide +kernel
theorem dX14_release_26 : decode cX14_release 26 = .ok (.aload_n 0, 1) := by decide +kernel
theorem dX14_release_27 : decode cX14_release 27 = .ok (.getfield 109, 3) := by decide +kernel
theorem dX14_release_30 : decode cX14_release 30 = .ok (.iload_n 1, 1) := by decide +kernel
theorem dX14_release_31 : decode cX14_release 31 = .ok (.iaload, 1) := by decide +kernel
theorem dX14_release_32 : decode cX14_release 32 = .ok (.putfield 383, 3) := by decide +kernel
theorem dX14_release_35 : decode cX14_release 35 = .ok (.iconst 0, 1) := by decide +kernel
theorem dX14_release_36 : decode cX14_release 36 = .ok (.istore_n 2, 1) := by decide +kernel
theorem dX14_release_37 : decode cX14_release 37 = .ok (.iload_n 2, 1) := by decide +kernel
theorem dX14_release_38 : decode cX14_release 38 = .ok (.aload_n 0, 1) := by decide +kernel
theorem dX14_release_39 : decode cX14_release 39 = .ok (.getfield 383, 3) := by decide +kernel
theorem dX14_release_42 : decode cX14_release 42 = .ok (.if_icmp .ge 26, 3) := by decide +kernel
theorem dX14_release_45 : decode cX14_release 45 = .ok (.aload_n 0, 1) := by decide +kernel
theorem dX14_release_46 : decode cX14_release 46 = .ok (.getfield 68, 3) := by decide +kernel
theorem dX14_release_49 : decode cX14_release 49 = .ok (.iload_n 2, 1) := by decide +kernel
theorem dX14_release_50 : decode cX14_release 50 = .ok (.aload_n 0, 1) := by decide +kernel
theorem dX14_release_51 : decode cX14_release 51 = .ok (.getfield 106, 3) := by decide +kernel
theorem dX14_release_54 : decode cX14_release 54 = .ok (.bipush 20, 2) := by decide +kernel
theorem dX14_release_56 : decode cX14_release 56 = .ok (.iload_n 1, 1) := by decide +kernel
theorem dX14_release_57 : decode cX14_release 57 = .ok (.imul, 1) := by decide +kernel
theorem dX14_release_58 : decode cX14_release 58 = .ok (.iload_n 2, 1) := by decide +kernel
theorem dX14_release_59 : decode cX14_release 59 = .ok (.iadd, 1) := by decide +kernel
theorem dX14_release_60 : decode cX14_release 60 = .ok (.iaload, 1) := by decide +kernel
theorem dX14_release_61 : decode cX14_release 61 = .ok (.iastore, 1) := by decide +kernel
theorem dX14_release_62 : decode cX14_release 62 = .ok (.iinc 2 1, 3) := by decide +kernel
theorem dX14_release_65 : decode cX14_release 65 = .ok (.goto (-28), 3) := by decide +kernel
theorem dX14_release_68 : decode cX14_release 68 = .ok (.iload_n 1, 1) := by decide +kernel
theorem dX14_release_69 : decode cX14_release 69 = .ok (.istore_n 2, 1) := by decide +kernel
theorem dX14_release_70 : decode cX14_release 70 = .ok (.iload_n 2, 1) := by decide +kernel
theorem dX14_release_71 : decode cX14_release 71 = .ok (.iconst 1, 1) := by decide +kernel
theorem dX14_release_72 : decode cX14_release 72 = .ok (.iadd, 1) := by decide +kernel
theorem dX14_release_73 : decode cX14_release 73 = .ok (.aload_n 0, 1) := by decide +kernel
theorem dX14_release_74 : decode cX14_release 74 = .ok (.getfield 711, 3) := by decide +kernel
theorem dX14_release_77 : decode cX14_release 77 = .ok (.if_icmp .ge 192, 3) := by decide +kernel
theorem dX14_release_80 : decode cX14_release 80 = .ok (.aload_n 0, 1) := by decide +kernel
theorem dX14_release_81 : decode cX14_release 81 = .ok (.getfield 91, 3) := by decide +kernel
theorem dX14_release_84 : decode cX14_release 84 = .ok (.iload_n 2, 1) := by decide +kernel
theorem dX14_release_85 : decode cX14_release 85 = .ok (.aload_n 0, 1) := by decide +kernel
theorem dX14_release_86 : decode cX14_release 86 = .ok (.getfield 91, 3) := by decide +kernel
theorem dX14_release_89 : decode cX14_release 89 = .ok (.iload_n 2, 1) := by decide +kernel
theorem dX14_release_90 : decode cX14_release 90 = .ok (.iconst 1, 1) := by decide +kernel
theorem dX14_release_91 : decode cX14_release 91 = .ok (.iadd, 1) := by decide +kernel
theorem dX14_release_92 : decode cX14_release 92 = .ok (.aaload, 1) := by decide +kernel
theorem dX14_release_93 : decode cX14_release 93 = .ok (.aastore, 1) := by decide +kernel
theorem dX14_release_94 : decode cX14_release 94 = .ok (.aload_n 0, 1) := by decide +kernel
theorem dX14_release_95 : decode cX14_release 95 = .ok (.getfield 94, 3) := by decide +kernel
theorem dX14_release_98 : decode cX14_release 98 = .ok (.iload_n 2, 1) := by decide +kernel
theorem dX14_release_99 : decode cX14_release 99 = .ok (.aload_n 0, 1) := by decide +kernel
theorem dX14_release_100 : decode cX14_release 100 = .ok (.getfield 94, 3) := by decide +kernel
theorem dX14_release_103 : decode cX14_release 103 = .ok (.iload_n 2, 1) := by decide +kernel
theorem dX14_release_104 : decode cX14_release 104 = .ok (.iconst 1, 1) := by decide +kernel
theorem dX14_release_105 : decode cX14_release 105 = .ok (.iadd, 1) := by decide +kernel
theorem dX14_release_106 : decode cX14_release 106 = .ok (.baload, 1) := by decide +kernel
theorem dX14_release_107 : decode cX14_release 107 = .ok (.bastore, 1) := by decide +kernel
theorem dX14_release_108 : decode cX14_release 108 = .ok (.aload_n 0, 1) := by decide +kernel
theorem dX14_release_109 : decode cX14_release 109 = .ok (.getfield 97, 3) := by decide +kernel
theorem dX14_release_112 : decode cX14_release 112 = .ok (.iload_n 2, 1) := by decide +kernel
theorem dX14_release_113 : decode cX14_release 113 = .ok (.aload_n 0, 1) := by decide +kernel
theorem dX14_release_114 : decode cX14_release 114 = .ok (.getfield 97, 3) := by decide +kernel
theorem dX14_release_117 : decode cX14_release 117 = .ok (.iload_n 2, 1) := by decide +kernel
theorem dX14_release_118 : decode cX14_release 118 = .ok (.iconst 1, 1) := by decide +kernel
theorem dX14_release_119 : decode cX14_release 119 = .ok (.iadd, 1) := by decide +kernel
theorem dX14_release_120 : decode cX14_release 120 = .ok (.iaload, 1) := by decide +kernel
theorem dX14_release_121 : decode cX14_release 121 = .ok (.iastore, 1) := by decide +kernel
theorem dX14_release_122 : decode cX14_release 122 = .ok (.aload_n 0, 1) := by decide +kernel
theorem dX14_release_123 : decode cX14_release 123 = .ok (.getfield 100, 3) := by decide +kernel
theorem dX14_release_126 : decode cX14_release 126 = .ok (.iload_n 2, 1) := by decide +kernel
theorem dX14_release_127 : decode cX14_release 127 = .ok (.aload_n 0, 1) := by decide +kernel
theorem dX14_release_128 : decode cX14_release 128 = .ok (.getfield 100, 3) := by decide +kernel
theorem dX14_release_131 : decode cX14_release 131 = .ok (.iload_n 2, 1) := by decide +kernel
theorem dX14_release_132 : decode cX14_release 132 = .ok (.iconst 1, 1) := by decide +kernel
theorem dX14_release_133 : decode cX14_release 133 = .ok (.iadd, 1) := by decide +kernel
theorem dX14_release_134 : decode cX14_release 134 = .ok (.baload, 1) := by decide +kernel
theorem dX14_release_135 : decode cX14_release 135 = .ok (.bastore, 1) := by decide +kernel
theorem dX14_release_136 : decode cX14_release 136 = .ok (.aload_n 0, 1) := by decide +kernel
theorem dX14_release_137 : decode cX14_release 137 = .ok (.getfield 103, 3) := by decide +kernel
theorem dX14_release_140 : decode cX14_release 140 = .ok (.iload_n 2, 1) := by decide +kernel
theorem dX14_release_141 : decode cX14_release 141 = .ok (.aload_n 0, 1) := by decide +kernel
theorem dX14_release_142 : decode cX14_release 142 = .ok (.getfield 103, 3) := by decide +kernel
theorem dX14_release_145 : decode cX14_release 145 = .ok (.iload_n 2, 1) := by decide +kernel
theorem dX14_release_146 : decode cX14_release 146 = .ok (.iconst 1, 1) := by decide +kernel
theorem dX14_release_147 : decode cX14_release 147 = .ok (.iadd, 1) := by decide +kernel
theorem dX14_release_148 : decode cX14_release 148 = .ok (.iaload, 1) := by decide +kernel
theorem dX14_release_149 : decode cX14_release 149 = .ok (.iastore, 1) := by decide +kernel
theorem dX14_release_150 : decode cX14_release 150 = .ok (.aload_n 0, 1) := by decide +kernel
theorem dX14_release_151 : decode cX14_release 151 = .ok (.getfield 109, 3) := by decide +kernel
theorem dX14_release_154 : decode cX14_release 154 = .ok (.iload_n 2, 1) := by decide +kernel
theorem dX14_release_155 : decode cX14_release 155 = .ok (.aload_n 0, 1) := by decide +kernel
theorem dX14_release_156 : decode cX14_release 156 = .ok (.getfield 109, 3) := by decide +kernel
theorem dX14_release_159 : decode cX14_release 159 = .ok (.iload_n 2, 1) := by decide +kernel
theorem dX14_release_160 : decode cX14_release 160 = .ok (.iconst 1, 1) := by decide +kernel
theorem dX14_release_161 : decode cX14_release 161 = .ok (.iadd, 1) := by decide +kernel
theorem dX14_release_162 : decode cX14_release 162 = .ok (.iaload, 1) := by decide +kernel
theorem dX14_release_163 : decode cX14_release 163 = .ok (.iastore, 1) := by decide +kernel
theorem dX14_release_164 : decode cX14_release 164 = .ok (.aload_n 0, 1) := by decide +kernel
theorem dX14_release_165 : decode cX14_release 165 = .ok (.getfield 116, 3) := by decide +kernel
theorem dX14_release_168 : decode cX14_release 168 = .ok (.iload_n 2, 1) := by decide +kernel
theorem dX14_release_169 : decode cX14_release 169 = .ok (.aload_n 0, 1) := by decide +kernel
theorem dX14_release_170 : decode cX14_release 170 = .ok (.getfield 116, 3) := by decide +kernel
theorem dX14_release_173 : decode cX14_release 173 = .ok (.iload_n 2, 1) := by decide +kernel
theorem dX14_release_174 : decode cX14_release 174 = .ok (.iconst 1, 1) := by decide +kernel
theorem dX14_release_175 : decode cX14_release 175 = .ok (.iadd, 1) := by decide +kernel
theorem dX14_release_176 : decode cX14_release 176 = .ok (.iaload, 1) := by decide +kernel
theorem dX14_release_177 : decode cX14_release 177 = .ok (.iastore, 1) := by decide +kernel
theorem dX14_release_178 : decode cX14_release 178 = .ok (.iconst 0, 1) := by decide +kernel
theorem dX14_release_179 : decode cX14_release 179 = .ok (.istore_n 3, 1) := by decide +kernel
theorem dX14_release_180 : decode cX14_release 180 = .ok (.iload_n 3, 1) := by decide +kernel
theorem dX14_release_181 : decode cX14_release 181 = .ok (.bipush 20, 2) := by decide +kernel
theorem dX14_release_183 : decode cX14_release 183 = .ok (.if_icmp .ge 34, 3) := by decide +kernel
theorem dX14_release_186 : decode cX14_release 186 = .ok (.aload_n 0, 1) := by decide +kernel
theorem dX14_release_187 : decode cX14_release 187 = .ok (.getfield 106, 3) := by decide +kernel
theorem dX14_release_190 : decode cX14_release 190 = .ok (.bipush 20, 2) := by decide +kernel
theorem dX14_release_192 : decode cX14_release 192 = .ok (.iload_n 2, 1) := by decide +kernel
theorem dX14_release_193 : decode cX14_release 193 = .ok (.imul, 1) := by decide +kernel
theorem dX14_release_194 : decode cX14_release 194 = .ok (.iload_n 3, 1) := by decide +kernel
theorem dX14_release_195 : decode cX14_release 195 = .ok (.iadd, 1) := by decide +kernel
theorem dX14_release_196 : decode cX14_release 196 = .ok (.aload_n 0, 1) := by decide +kernel
theorem dX14_release_197 : decode cX14_release 197 = .ok (.getfield 106, 3) := by decide +kernel
theorem dX14_release_200 : decode cX14_release 200 = .ok (.bipush 20, 2) := by decide +kernel
theorem dX14_release_202 : decode cX14_release 202 = .ok (.iload_n 2, 1) := by decide +kernel
theorem dX14_release_203 : decode cX14_release 203 = .ok (.imul, 1) := by decide +kernel
theorem dX14_release_204 : decode cX14_release 204 = .ok (.bipush 20, 2) := by decide +kernel
theorem dX14_release_206 : decode cX14_release 206 = .ok (.iadd, 1) := by decide +kernel
theorem dX14_release_207 : decode cX14_release 207 = .ok (.iload_n 3, 1) := by decide +kernel
theorem dX14_release_208 : decode cX14_release 208 = .ok (.iadd, 1) := by decide +kernel
theorem dX14_release_209 : decode cX14_release 209 = .ok (.iaload, 1) := by decide +kernel
theorem dX14_release_210 : decode cX14_release 210 = .ok (.iastore, 1) := by decide +kernel
theorem dX14_release_211 : decode cX14_release 211 = .ok (.iinc 3 1, 3) := by decide +kernel
theorem dX14_release_214 : decode cX14_release 214 = .ok (.goto (-34), 3) := by decide +kernel
theorem dX14_release_217 : decode cX14_release 217 = .ok (.iconst 0, 1) := by decide +kernel
theorem dX14_release_218 : decode cX14_release 218 = .ok (.istore_n 3, 1) := by decide +kernel
theorem dX14_release_219 : decode cX14_release 219 = .ok (.iload_n 3, 1) := by decide +kernel
theorem dX14_release_220 : decode cX14_release 220 = .ok (.aload_n 0, 1) := by decide +kernel
theorem dX14_release_221 : decode cX14_release 221 = .ok (.getfield 116, 3) := by decide +kernel
theorem dX14_release_224 : decode cX14_release 224 = .ok (.iload_n 2, 1) := by decide +kernel
theorem dX14_release_225 : decode cX14_release 225 = .ok (.iaload, 1) := by decide +kernel
theorem dX14_release_226 : decode cX14_release 226 = .ok (.if_icmp .ge 37, 3) := by decide +kernel
theorem dX14_release_229 : decode cX14_release 229 = .ok (.aload_n 0, 1) := by decide +kernel
theorem dX14_release_230 : decode cX14_release 230 = .ok (.getfield 113, 3) := by decide +kernel
theorem dX14_release_233 : decode cX14_release 233 = .ok (.sipush 3100, 3) := by decide +kernel
theorem dX14_release_236 : decode cX14_release 236 = .ok (.iload_n 2, 1) := by decide +kernel
theorem dX14_release_237 : decode cX14_release 237 = .ok (.imul, 1) := by decide +kernel
theorem dX14_release_238 : decode cX14_release 238 = .ok (.iload_n 3, 1) := by decide +kernel
theorem dX14_release_239 : decode cX14_release 239 = .ok (.iadd, 1) := by decide +kernel
theorem dX14_release_240 : decode cX14_release 240 = .ok (.aload_n 0, 1) := by decide +kernel
theorem dX14_release_241 : decode cX14_release 241 = .ok (.getfield 113, 3) := by decide +kernel
theorem dX14_release_244 : decode cX14_release 244 = .ok (.sipush 3100, 3) := by decide +kernel
theorem dX14_release_247 : decode cX14_release 247 = .ok (.iload_n 2, 1) := by decide +kernel
theorem dX14_release_248 : decode cX14_release 248 = .ok (.imul, 1) := by decide +kernel
theorem dX14_release_249 : decode cX14_release 249 = .ok (.sipush 3100, 3) := by decide +kernel
theorem dX14_release_252 : decode cX14_release 252 = .ok (.iadd, 1) := by decide +kernel
theorem dX14_release_253 : decode cX14_release 253 = .ok (.iload_n 3, 1) := by decide +kernel
theorem dX14_release_254 : decode cX14_release 254 = .ok (.iadd, 1) := by decide +kernel
theorem dX14_release_255 : decode cX14_release 255 = .ok (.iaload, 1) := by decide +kernel
theorem dX14_release_256 : decode cX14_release 256 = .ok (.iastore, 1) := by decide +kernel
theorem dX14_release_257 : decode cX14_release 257 = .ok (.iinc 3 1, 3) := by decide +kernel
theorem dX14_release_260 : decode cX14_release 260 = .ok (.goto (-41), 3) := by decide +kernel
theorem dX14_release_263 : decode cX14_release 263 = .ok (.iinc 2 1, 3) := by decide +kernel
theorem dX14_release_266 : decode cX14_release 266 = .ok (.goto (-196), 3) := by decide +kernel
theorem dX14_release_269 : decode cX14_release 269 = .ok (.aload_n 0, 1) := by decide +kernel
theorem dX14_release_270 : decode cX14_release 270 = .ok (.dup, 1) := by decide +kernel
theorem dX14_release_271 : decode cX14_release 271 = .ok (.getfield 711, 3) := by decide +kernel
theorem dX14_release_274 : decode cX14_release 274 = .ok (.iconst 1, 1) := by decide +kernel
theorem dX14_release_275 : decode cX14_release 275 = .ok (.isub, 1) := by decide +kernel
theorem dX14_release_276 : decode cX14_release 276 = .ok (.putfield 711, 3) := by decide +kernel
theorem dX14_release_279 : decode cX14_release 279 = .ok (.return_, 1) := by decide +kernel
end
section
-- new cells: an array of ints that is typed at once
section J11
variable {p : Program} {l : Launch} {e : Env} {R : Room} {s : State} {m : MethodId} {args : Array Value} {below : List Frame} {meth : Method} {c : Code} {H : Heap} {locs : List Loc} {cells slots : Nat} {Q : State → Prop}
variable {cc : ByteArray} {pc : Nat} {ls : Array Slot} {rest : List Value} {dC : Nat → ClassId} {dI : Nat → Nat → Nat} {ca : Nat → ClassId} {B : jF} {base : Nat} {G0 G : jT} {E : List (Nat × Nat)} {H0 : Heap} {zc zs : Nat} {L : List jPin} {M : List jCt} {I : List jIv} {k n : Nat} {P : Nat → Int32 → Prop} {cA : ClassId} {tys : List (ClassId × FieldType)}
theorem jSt.new (hh : jSt (dC, dI) B base G0 G E H0 zc zs L M I H locs) (hB : jBok B) (hb0 : base ≤ H.size) {H1 : Heap} (hsz : H1.size = H.size + 1) (hfr : ∀ q, q < H.size → H1[q]? = H[q]?) {w : Nat} (hT : jTot H1 = jTot H + w) (hk : k < 1000) (hb : B k n (va_up G H.size (some (k, n))) H.size H1) : jSt (dC, dI) B base G0 (va_up G H.size (some (k, n))) E H0 (zc + 1) (zs + w) L M I H1 locs := by
  obtain ⟨h1, h2, h3, h4, h5, h6, h7, h8, h9⟩ := hh
  have hn := h2.fresh
  have hle : jLe G (va_up G H.size (some (k, n))) := jLe.new hn
  have key : ∀ kb b ib v, jf (dC, dI) kb b ib v H → jf (dC, dI) kb b ib v H1 := fun kb b ib v hf => hf.kept (hfr b hf.lt)
  have hX1 := (h2.grow hB (k, n) hb0 hsz hfr).cls (jUp_self) hb
  refine ⟨⟨by rw [hsz]; exact Nat.le_succ_of_le h1.1, fun q g1 g2 => (hfr q (Nat.lt_of_lt_of_le g1 h1.1)).trans (h1.2.1 q g1 g2), h1.2.2⟩, hX1, fun q hq => ?_, ⟨fun a kb nb ib v ha he hf => key kb a ib v (h4.1 a kb nb ib v ha he hf), fun a kb nb ha g1 g2 he => ?_⟩, h5.tr hle, by omega, by omega, fun q hq => ?_, fun q hq => ?_⟩
  · obtain ⟨⟨nq, g1⟩, g2⟩ := h3 q hq
    exact ⟨⟨nq, hle _ _ g1⟩, key _ _ _ _ g2⟩
  · exact (hfr a (h2.2 _ _ (h5 _ _ ha)).2).trans (h4.2 a kb nb ha g1 g2 he)
  · obtain ⟨g1, g2, g3, g4⟩ := h8 q hq
    exact ⟨hle _ _ g1, g2, g3, g4.kept (hfr _ (h2.2 _ _ g1).2)⟩
  · obtain ⟨g1, g2⟩ := h9 q hq
    have hag : ∀ Ha Hb, jAg (dC, dI) (va_up G H.size (some (k, n))) q.1 Ha Hb → jAg (dC, dI) G q.1 Ha Hb := fun Ha Hb hA => ⟨fun a kb nb ib v ha => hA.1 a kb nb ib v (hle _ _ ha), fun a kb nb ha => hA.2 a kb nb (hle _ _ ha)⟩
    refine ⟨g2 H H1 ⟨fun a kb nb ib v _ _ hf => key kb a ib v hf, fun a kb nb ha _ _ _ => hfr a (h2.2 _ _ ha).2⟩ g1, fun Ha Hb hA => g2 Ha Hb (hag Ha Hb hA)⟩
end J11
end
section
theorem dX13_readTerm_0 : decode cX13_readTerm 0 = .ok (.aload_n 0, 1) := by decide +kernel
theorem dX13_readTerm_1 : decode cX13_readTerm 1 = .ok (.invokevirtual 194, 3) := by decide +kernel
theorem dX13_readTerm_4 : decode cX13_readTerm 4 = .ok (.istore_n 2, 1) := by decide +kernel
theorem dX13_readTerm_5 : decode cX13_readTerm 5 = .ok (.aload_n 0, 1) := by decide +kernel
theorem dX13_readTerm_6 : decode cX13_readTerm 6 = .ok (.getfield 181, 3) := by decide +kernel
theorem dX13_readTerm_9 : decode cX13_readTerm 9 = .ok (.ifCond .eq 5, 3) := by decide +kernel
theorem dX13_readTerm_12 : decode cX13_readTerm 12 = .ok (.iconst 0, 1) := by decide +kernel
theorem dX13_readTerm_13 : decode cX13_readTerm 13 = .ok (.ireturn, 1) := by decide +kernel
theorem dX13_readTerm_14 : decode cX13_readTerm 14 = .ok (.aload_n 0, 1) := by decide +kernel
theorem dX13_readTerm_15 : decode cX13_readTerm 15 = .ok (.bipush 11, 2) := by decide +kernel
theorem dX13_readTerm_17 : decode cX13_readTerm 17 = .ok (.iload_n 2, 1) := by decide +kernel
theorem dX13_readTerm_18 : decode cX13_readTerm 18 = .ok (.iconst (-1), 1) := by decide +kernel
theorem dX13_readTerm_19 : decode cX13_readTerm 19 = .ok (.iconst (-1), 1) := by decide +kernel
theorem dX13_readTerm_20 : decode cX13_readTerm 20 = .ok (.iconst 0, 1) := by decide +kernel
theorem dX13_readTerm_21 : decode cX13_readTerm 21 = .ok (.invokevirtual 197, 3) := by decide +kernel
theorem dX13_readTerm_24 : decode cX13_readTerm 24 = .ok (.istore_n 3, 1) := by decide +kernel
theorem dX13_readTerm_25 : decode cX13_readTerm 25 = .ok (.aload_n 0, 1) := by decide +kernel
theorem dX13_readTerm_26 : decode cX13_readTerm 26 = .ok (.bipush 40, 2) := by decide +kernel
theorem dX13_readTerm_28 : decode cX13_readTerm 28 = .ok (.invokevirtual 178, 3) := by decide +kernel
theorem dX13_readTerm_31 : decode cX13_readTerm 31 = .ok (.ifCond .ne 5, 3) := by decide +kernel
theorem dX13_readTerm_34 : decode cX13_readTerm 34 = .ok (.iload_n 3, 1) := by decide +kernel
theorem dX13_readTerm_35 : decode cX13_readTerm 35 = .ok (.ireturn, 1) := by decide +kernel
theorem dX13_readTerm_36 : decode cX13_readTerm 36 = .ok (.iload_n 1, 1) := by decide +kernel
theorem dX13_readTerm_37 : decode cX13_readTerm 37 = .ok (.bipush 12, 2) := by decide +kernel
theorem dX13_readTerm_39 : decode cX13_readTerm 39 = .ok (.if_icmp .ne 8, 3) := by decide +kernel
theorem dX13_readTerm_42 : decode cX13_readTerm 42 = .ok (.aload_n 0, 1) := by decide +kernel
theorem dX13_readTerm_43 : decode cX13_readTerm 43 = .ok (.iconst 1, 1) := by decide +kernel
theorem dX13_readTerm_44 : decode cX13_readTerm 44 = .ok (.putfield 181, 3) := by decide +kernel
theorem dX13_readTerm_47 : decode cX13_readTerm 47 = .ok (.aload_n 0, 1) := by decide +kernel
theorem dX13_readTerm_48 : decode cX13_readTerm 48 = .ok (.dup, 1) := by decide +kernel
theorem dX13_readTerm_49 : decode cX13_readTerm 49 = .ok (.getfield 171, 3) := by decide +kernel
theorem dX13_readTerm_52 : decode cX13_readTerm 52 = .ok (.iconst 1, 1) := by decide +kernel
theorem dX13_readTerm_53 : decode cX13_readTerm 53 = .ok (.iadd, 1) := by decide +kernel
theorem dX13_readTerm_54 : decode cX13_readTerm 54 = .ok (.putfield 171, 3) := by decide +kernel
theorem dX13_readTerm_57 : decode cX13_readTerm 57 = .ok (.iconst (-1), 1) := by decide +kernel
theorem dX13_readTerm_58 : decode cX13_readTerm 58 = .ok (.istore 4, 2) := by decide +kernel
theorem dX13_readTerm_60 : decode cX13_readTerm 60 = .ok (.iconst 1, 1) := by decide +kernel
theorem dX13_readTerm_61 : decode cX13_readTerm 61 = .ok (.istore 5, 2) := by decide +kernel
theorem dX13_readTerm_63 : decode cX13_readTerm 63 = .ok (.iload 5, 2) := by decide +kernel
theorem dX13_readTerm_65 : decode cX13_readTerm 65 = .ok (.ifCond .eq 84, 3) := by decide +kernel
theorem dX13_readTerm_68 : decode cX13_readTerm 68 = .ok (.aload_n 0, 1) := by decide +kernel
theorem dX13_readTerm_69 : decode cX13_readTerm 69 = .ok (.getfield 181, 3) := by decide +kernel
theorem dX13_readTerm_72 : decode cX13_readTerm 72 = .ok (.ifCond .ne 77, 3) := by decide +kernel
theorem dX13_readTerm_75 : decode cX13_readTerm 75 = .ok (.aload_n 0, 1) := by decide +kernel
theorem dX13_readTerm_76 : decode cX13_readTerm 76 = .ok (.iload_n 1, 1) := by decide +kernel
theorem dX13_readTerm_77 : decode cX13_readTerm 77 = .ok (.iconst 1, 1) := by decide +kernel
theorem dX13_readTerm_78 : decode cX13_readTerm 78 = .ok (.iadd, 1) := by decide +kernel
theorem dX13_readTerm_79 : decode cX13_readTerm 79 = .ok (.invokevirtual 201, 3) := by decide +kernel
theorem dX13_readTerm_82 : decode cX13_readTerm 82 = .ok (.istore 6, 2) := by decide +kernel
theorem dX13_readTerm_84 : decode cX13_readTerm 84 = .ok (.iload 4, 2) := by decide +kernel
theorem dX13_readTerm_86 : decode cX13_readTerm 86 = .ok (.ifCond .ge 14, 3) := by decide +kernel
theorem dX13_readTerm_89 : decode cX13_readTerm 89 = .ok (.aload_n 0, 1) := by decide +kernel
theorem dX13_readTerm_90 : decode cX13_readTerm 90 = .ok (.getfield 19, 3) := by decide +kernel
theorem dX13_readTerm_93 : decode cX13_readTerm 93 = .ok (.iload_n 3, 1) := by decide +kernel
theorem dX13_readTerm_94 : decode cX13_readTerm 94 = .ok (.iload 6, 2) := by decide +kernel
theorem dX13_readTerm_96 : decode cX13_readTerm 96 = .ok (.iastore, 1) := by decide +kernel
theorem dX13_readTerm_97 : decode cX13_readTerm 97 = .ok (.goto 12, 3) := by decide +kernel
theorem dX13_readTerm_100 : decode cX13_readTerm 100 = .ok (.aload_n 0, 1) := by decide +kernel
theorem dX13_readTerm_101 : decode cX13_readTerm 101 = .ok (.getfield 22, 3) := by decide +kernel
theorem dX13_readTerm_104 : decode cX13_readTerm 104 = .ok (.iload 4, 2) := by decide +kernel
theorem dX13_readTerm_106 : decode cX13_readTerm 106 = .ok (.iload 6, 2) := by decide +kernel
theorem dX13_readTerm_108 : decode cX13_readTerm 108 = .ok (.iastore, 1) := by decide +kernel
theorem dX13_readTerm_109 : decode cX13_readTerm 109 = .ok (.iload 6, 2) := by decide +kernel
theorem dX13_readTerm_111 : decode cX13_readTerm 111 = .ok (.istore 4, 2) := by decide +kernel
theorem dX13_readTerm_113 : decode cX13_readTerm 113 = .ok (.aload_n 0, 1) := by decide +kernel
theorem dX13_readTerm_114 : decode cX13_readTerm 114 = .ok (.getfield 25, 3) := by decide +kernel
theorem dX13_readTerm_117 : decode cX13_readTerm 117 = .ok (.iload_n 3, 1) := by decide +kernel
theorem dX13_readTerm_118 : decode cX13_readTerm 118 = .ok (.dup2, 1) := by decide +kernel
theorem dX13_readTerm_119 : decode cX13_readTerm 119 = .ok (.iaload, 1) := by decide +kernel
theorem dX13_readTerm_120 : decode cX13_readTerm 120 = .ok (.iconst 1, 1) := by decide +kernel
theorem dX13_readTerm_121 : decode cX13_readTerm 121 = .ok (.iadd, 1) := by decide +kernel
theorem dX13_readTerm_122 : decode cX13_readTerm 122 = .ok (.iastore, 1) := by decide +kernel
theorem dX13_readTerm_123 : decode cX13_readTerm 123 = .ok (.aload_n 0, 1) := by decide +kernel
theorem dX13_readTerm_124 : decode cX13_readTerm 124 = .ok (.bipush 44, 2) := by decide +kernel
theorem dX13_readTerm_126 : decode cX13_readTerm 126 = .ok (.invokevirtual 178, 3) := by decide +kernel
theorem dX13_readTerm_129 : decode cX13_readTerm 129 = .ok (.istore 5, 2) := by decide +kernel
theorem dX13_readTerm_131 : decode cX13_readTerm 131 = .ok (.iload 5, 2) := by decide +kernel
theorem dX13_readTerm_133 : decode cX13_readTerm 133 = .ok (.ifCond .eq 13, 3) := by decide +kernel
theorem dX13_readTerm_136 : decode cX13_readTerm 136 = .ok (.aload_n 0, 1) := by decide +kernel
theorem dX13_readTerm_137 : decode cX13_readTerm 137 = .ok (.dup, 1) := by decide +kernel
theorem dX13_readTerm_138 : decode cX13_readTerm 138 = .ok (.getfield 171, 3) := by decide +kernel
theorem dX13_readTerm_141 : decode cX13_readTerm 141 = .ok (.iconst 1, 1) := by decide +kernel
theorem dX13_readTerm_142 : decode cX13_readTerm 142 = .ok (.iadd, 1) := by decide +kernel
theorem dX13_readTerm_143 : decode cX13_readTerm 143 = .ok (.putfield 171, 3) := by decide +kernel
theorem dX13_readTerm_146 : decode cX13_readTerm 146 = .ok (.goto (-83), 3) := by decide +kernel
theorem dX13_readTerm_149 : decode cX13_readTerm 149 = .ok (.aload_n 0, 1) := by decide +kernel
theorem dX13_readTerm_150 : decode cX13_readTerm 150 = .ok (.bipush 41, 2) := by decide +kernel
theorem dX13_readTerm_152 : decode cX13_readTerm 152 = .ok (.invokevirtual 205, 3) := by decide +kernel
theorem dX13_readTerm_155 : decode cX13_readTerm 155 = .ok (.iload_n 3, 1) := by decide +kernel
theorem dX13_readTerm_156 : decode cX13_readTerm 156 = .ok (.ireturn, 1) := by decide +kernel
end
section
theorem dX13_readImp_0 : decode cX13_readImp 0 = .ok (.aload_n 0, 1) := by decide +kernel
theorem dX13_readImp_1 : decode cX13_readImp 1 = .ok (.iload_n 1, 1) := by decide +kernel
theorem dX13_readImp_2 : decode cX13_readImp 2 = .ok (.invokevirtual 209, 3) := by decide +kernel
theorem dX13_readImp_5 : decode cX13_readImp 5 = .ok (.istore_n 2, 1) := by decide +kernel
theorem dX13_readImp_6 : decode cX13_readImp 6 = .ok (.aload_n 0, 1) := by decide +kernel
theorem dX13_readImp_7 : decode cX13_readImp 7 = .ok (.getfield 181, 3) := by decide +kernel
theorem dX13_readImp_10 : decode cX13_readImp 10 = .ok (.ifCond .ne 12, 3) := by decide +kernel
theorem dX13_readImp_13 : decode cX13_readImp 13 = .ok (.aload_n 0, 1) := by decide +kernel
theorem dX13_readImp_14 : decode cX13_readImp 14 = .ok (.bipush 62, 2) := by decide +kernel
theorem dX13_readImp_16 : decode cX13_readImp 16 = .ok (.invokevirtual 178, 3) := by decide +kernel
theorem dX13_readImp_19 : decode cX13_readImp 19 = .ok (.ifCond .ne 5, 3) := by decide +kernel
theorem dX13_readImp_22 : decode cX13_readImp 22 = .ok (.iload_n 2, 1) := by decide +kernel
theorem dX13_readImp_23 : decode cX13_readImp 23 = .ok (.ireturn, 1) := by decide +kernel
theorem dX13_readImp_24 : decode cX13_readImp 24 = .ok (.aload_n 0, 1) := by decide +kernel
theorem dX13_readImp_25 : decode cX13_readImp 25 = .ok (.dup, 1) := by decide +kernel
theorem dX13_readImp_26 : decode cX13_readImp 26 = .ok (.getfield 171, 3) := by decide +kernel
theorem dX13_readImp_29 : decode cX13_readImp 29 = .ok (.iconst 1, 1) := by decide +kernel
theorem dX13_readImp_30 : decode cX13_readImp 30 = .ok (.iadd, 1) := by decide +kernel
theorem dX13_readImp_31 : decode cX13_readImp 31 = .ok (.putfield 171, 3) := by decide +kernel
theorem dX13_readImp_34 : decode cX13_readImp 34 = .ok (.aload_n 0, 1) := by decide +kernel
theorem dX13_readImp_35 : decode cX13_readImp 35 = .ok (.iconst 0, 1) := by decide +kernel
theorem dX13_readImp_36 : decode cX13_readImp 36 = .ok (.iconst 0, 1) := by decide +kernel
theorem dX13_readImp_37 : decode cX13_readImp 37 = .ok (.iload_n 2, 1) := by decide +kernel
theorem dX13_readImp_38 : decode cX13_readImp 38 = .ok (.aload_n 0, 1) := by decide +kernel
theorem dX13_readImp_39 : decode cX13_readImp 39 = .ok (.iload_n 1, 1) := by decide +kernel
theorem dX13_readImp_40 : decode cX13_readImp 40 = .ok (.invokevirtual 212, 3) := by decide +kernel
theorem dX13_readImp_43 : decode cX13_readImp 43 = .ok (.iconst 0, 1) := by decide +kernel
theorem dX13_readImp_44 : decode cX13_readImp 44 = .ok (.invokevirtual 197, 3) := by decide +kernel
theorem dX13_readImp_47 : decode cX13_readImp 47 = .ok (.ireturn, 1) := by decide +kernel
theorem dX13_readOr_0 : decode cX13_readOr 0 = .ok (.aload_n 0, 1) := by decide +kernel
theorem dX13_readOr_1 : decode cX13_readOr 1 = .ok (.iload_n 1, 1) := by decide +kernel
theorem dX13_readOr_2 : decode cX13_readOr 2 = .ok (.invokevirtual 215, 3) := by decide +kernel
theorem dX13_readOr_5 : decode cX13_readOr 5 = .ok (.istore_n 2, 1) := by decide +kernel
theorem dX13_readOr_6 : decode cX13_readOr 6 = .ok (.aload_n 0, 1) := by decide +kernel
theorem dX13_readOr_7 : decode cX13_readOr 7 = .ok (.getfield 181, 3) := by decide +kernel
theorem dX13_readOr_10 : decode cX13_readOr 10 = .ok (.ifCond .ne 12, 3) := by decide +kernel
theorem dX13_readOr_13 : decode cX13_readOr 13 = .ok (.aload_n 0, 1) := by decide +kernel
theorem dX13_readOr_14 : decode cX13_readOr 14 = .ok (.bipush 43, 2) := by decide +kernel
theorem dX13_readOr_16 : decode cX13_readOr 16 = .ok (.invokevirtual 178, 3) := by decide +kernel
theorem dX13_readOr_19 : decode cX13_readOr 19 = .ok (.ifCond .ne 5, 3) := by decide +kernel
theorem dX13_readOr_22 : decode cX13_readOr 22 = .ok (.iload_n 2, 1) := by decide +kernel
theorem dX13_readOr_23 : decode cX13_readOr 23 = .ok (.ireturn, 1) := by decide +kernel
theorem dX13_readOr_24 : decode cX13_readOr 24 = .ok (.aload_n 0, 1) := by decide +kernel
theorem dX13_readOr_25 : decode cX13_readOr 25 = .ok (.dup, 1) := by decide +kernel
theorem dX13_readOr_26 : decode cX13_readOr 26 = .ok (.getfield 171, 3) := by decide +kernel
theorem dX13_readOr_29 : decode cX13_readOr 29 = .ok (.iconst 1, 1) := by decide +kernel
theorem dX13_readOr_30 : decode cX13_readOr 30 = .ok (.iadd, 1) := by decide +kernel
theorem dX13_readOr_31 : decode cX13_readOr 31 = .ok (.putfield 171, 3) := by decide +kernel
theorem dX13_readOr_34 : decode cX13_readOr 34 = .ok (.aload_n 0, 1) := by decide +kernel
theorem dX13_readOr_35 : decode cX13_readOr 35 = .ok (.iconst 2, 1) := by decide +kernel
theorem dX13_readOr_36 : decode cX13_readOr 36 = .ok (.iconst 0, 1) := by decide +kernel
theorem dX13_readOr_37 : decode cX13_readOr 37 = .ok (.iload_n 2, 1) := by decide +kernel
theorem dX13_readOr_38 : decode cX13_readOr 38 = .ok (.aload_n 0, 1) := by decide +kernel
theorem dX13_readOr_39 : decode cX13_readOr 39 = .ok (.iload_n 1, 1) := by decide +kernel
theorem dX13_readOr_40 : decode cX13_readOr 40 = .ok (.invokevirtual 209, 3) := by decide +kernel
theorem dX13_readOr_43 : decode cX13_readOr 43 = .ok (.iconst 0, 1) := by decide +kernel
theorem dX13_readOr_44 : decode cX13_readOr 44 = .ok (.invokevirtual 197, 3) := by decide +kernel
theorem dX13_readOr_47 : decode cX13_readOr 47 = .ok (.ireturn, 1) := by decide +kernel
theorem dX13_readAnd_0 : decode cX13_readAnd 0 = .ok (.aload_n 0, 1) := by decide +kernel
theorem dX13_readAnd_1 : decode cX13_readAnd 1 = .ok (.iload_n 1, 1) := by decide +kernel
theorem dX13_readAnd_2 : decode cX13_readAnd 2 = .ok (.invokevirtual 218, 3) := by decide +kernel
theorem dX13_readAnd_5 : decode cX13_readAnd 5 = .ok (.istore_n 2, 1) := by decide +kernel
theorem dX13_readAnd_6 : decode cX13_readAnd 6 = .ok (.aload_n 0, 1) := by decide +kernel
theorem dX13_readAnd_7 : decode cX13_readAnd 7 = .ok (.getfield 181, 3) := by decide +kernel
theorem dX13_readAnd_10 : decode cX13_readAnd 10 = .ok (.ifCond .ne 12, 3) := by decide +kernel
theorem dX13_readAnd_13 : decode cX13_readAnd 13 = .ok (.aload_n 0, 1) := by decide +kernel
theorem dX13_readAnd_14 : decode cX13_readAnd 14 = .ok (.bipush 42, 2) := by decide +kernel
theorem dX13_readAnd_16 : decode cX13_readAnd 16 = .ok (.invokevirtual 178, 3) := by decide +kernel
theorem dX13_readAnd_19 : decode cX13_readAnd 19 = .ok (.ifCond .ne 5, 3) := by decide +kernel
theorem dX13_readAnd_22 : decode cX13_readAnd 22 = .ok (.iload_n 2, 1) := by decide +kernel
theorem dX13_readAnd_23 : decode cX13_readAnd 23 = .ok (.ireturn, 1) := by decide +kernel
theorem dX13_readAnd_24 : decode cX13_readAnd 24 = .ok (.aload_n 0, 1) := by decide +kernel
theorem dX13_readAnd_25 : decode cX13_readAnd 25 = .ok (.dup, 1) := by decide +kernel
theorem dX13_readAnd_26 : decode cX13_readAnd 26 = .ok (.getfield 171, 3) := by decide +kernel
theorem dX13_readAnd_29 : decode cX13_readAnd 29 = .ok (.iconst 1, 1) := by decide +kernel
theorem dX13_readAnd_30 : decode cX13_readAnd 30 = .ok (.iadd, 1) := by decide +kernel
theorem dX13_readAnd_31 : decode cX13_readAnd 31 = .ok (.putfield 171, 3) := by decide +kernel
theorem dX13_readAnd_34 : decode cX13_readAnd 34 = .ok (.aload_n 0, 1) := by decide +kernel
theorem dX13_readAnd_35 : decode cX13_readAnd 35 = .ok (.iconst 1, 1) := by decide +kernel
theorem dX13_readAnd_36 : decode cX13_readAnd 36 = .ok (.iconst 0, 1) := by decide +kernel
theorem dX13_readAnd_37 : decode cX13_readAnd 37 = .ok (.iload_n 2, 1) := by decide +kernel
theorem dX13_readAnd_38 : decode cX13_readAnd 38 = .ok (.aload_n 0, 1) := by decide +kernel
theorem dX13_readAnd_39 : decode cX13_readAnd 39 = .ok (.iload_n 1, 1) := by decide +kernel
theorem dX13_readAnd_40 : decode cX13_readAnd 40 = .ok (.invokevirtual 215, 3) := by decide +kernel
theorem dX13_readAnd_43 : decode cX13_readAnd 43 = .ok (.iconst 0, 1) := by decide +kernel
theorem dX13_readAnd_44 : decode cX13_readAnd 44 = .ok (.invokevirtual 197, 3) := by decide +kernel
theorem dX13_readAnd_47 : decode cX13_readAnd 47 = .ok (.ireturn, 1) := by decide +kernel
theorem dX13_readOne_0 : decode cX13_readOne 0 = .ok (.aload_n 0, 1) := by decide +kernel
theorem dX13_readOne_1 : decode cX13_readOne 1 = .ok (.getfield 181, 3) := by decide +kernel
theorem dX13_readOne_4 : decode cX13_readOne 4 = .ok (.ifCond .eq 5, 3) := by decide +kernel
theorem dX13_readOne_7 : decode cX13_readOne 7 = .ok (.iconst 0, 1) := by decide +kernel
theorem dX13_readOne_8 : decode cX13_readOne 8 = .ok (.ireturn, 1) := by decide +kernel
theorem dX13_readOne_9 : decode cX13_readOne 9 = .ok (.aload_n 0, 1) := by decide +kernel
theorem dX13_readOne_10 : decode cX13_readOne 10 = .ok (.ldc 184, 2) := by decide +kernel
theorem dX13_readOne_12 : decode cX13_readOne 12 = .ok (.invokevirtual 186, 3) := by decide +kernel
theorem dX13_readOne_15 : decode cX13_readOne 15 = .ok (.istore_n 2, 1) := by decide +kernel
theorem dX13_readOne_16 : decode cX13_readOne 16 = .ok (.aload_n 0, 1) := by decide +kernel
theorem dX13_readOne_17 : decode cX13_readOne 17 = .ok (.bipush 126, 2) := by decide +kernel
theorem dX13_readOne_19 : decode cX13_readOne 19 = .ok (.invokevirtual 178, 3) := by decide +kernel
theorem dX13_readOne_22 : decode cX13_readOne 22 = .ok (.ifCond .ne 25, 3) := by decide +kernel
theorem dX13_readOne_25 : decode cX13_readOne 25 = .ok (.aload_n 0, 1) := by decide +kernel
theorem dX13_readOne_26 : decode cX13_readOne 26 = .ok (.bipush 40, 2) := by decide +kernel
theorem dX13_readOne_28 : decode cX13_readOne 28 = .ok (.invokevirtual 178, 3) := by decide +kernel
theorem dX13_readOne_31 : decode cX13_readOne 31 = .ok (.ifCond .ne 16, 3) := by decide +kernel
theorem dX13_readOne_34 : decode cX13_readOne 34 = .ok (.iload_n 2, 1) := by decide +kernel
theorem dX13_readOne_35 : decode cX13_readOne 35 = .ok (.ifCond .ne 12, 3) := by decide +kernel
theorem dX13_readOne_38 : decode cX13_readOne 38 = .ok (.aload_n 0, 1) := by decide +kernel
theorem dX13_readOne_39 : decode cX13_readOne 39 = .ok (.ldc 190, 2) := by decide +kernel
theorem dX13_readOne_41 : decode cX13_readOne 41 = .ok (.invokevirtual 186, 3) := by decide +kernel
theorem dX13_readOne_44 : decode cX13_readOne 44 = .ok (.ifCond .eq 7, 3) := by decide +kernel
theorem dX13_readOne_47 : decode cX13_readOne 47 = .ok (.iconst 1, 1) := by decide +kernel
theorem dX13_readOne_48 : decode cX13_readOne 48 = .ok (.goto 4, 3) := by decide +kernel
theorem dX13_readOne_51 : decode cX13_readOne 51 = .ok (.iconst 0, 1) := by decide +kernel
theorem dX13_readOne_52 : decode cX13_readOne 52 = .ok (.istore_n 3, 1) := by decide +kernel
theorem dX13_readOne_53 : decode cX13_readOne 53 = .ok (.iload_n 3, 1) := by decide +kernel
theorem dX13_readOne_54 : decode cX13_readOne 54 = .ok (.ifCond .eq 14, 3) := by decide +kernel
theorem dX13_readOne_57 : decode cX13_readOne 57 = .ok (.iload_n 1, 1) := by decide +kernel
theorem dX13_readOne_58 : decode cX13_readOne 58 = .ok (.bipush 12, 2) := by decide +kernel
theorem dX13_readOne_60 : decode cX13_readOne 60 = .ok (.if_icmp .ne 8, 3) := by decide +kernel
theorem dX13_readOne_63 : decode cX13_readOne 63 = .ok (.aload_n 0, 1) := by decide +kernel
theorem dX13_readOne_64 : decode cX13_readOne 64 = .ok (.iconst 1, 1) := by decide +kernel
theorem dX13_readOne_65 : decode cX13_readOne 65 = .ok (.putfield 181, 3) := by decide +kernel
theorem dX13_readOne_68 : decode cX13_readOne 68 = .ok (.aload_n 0, 1) := by decide +kernel
theorem dX13_readOne_69 : decode cX13_readOne 69 = .ok (.getfield 181, 3) := by decide +kernel
theorem dX13_readOne_72 : decode cX13_readOne 72 = .ok (.ifCond .eq 5, 3) := by decide +kernel
theorem dX13_readOne_75 : decode cX13_readOne 75 = .ok (.iconst 0, 1) := by decide +kernel
theorem dX13_readOne_76 : decode cX13_readOne 76 = .ok (.ireturn, 1) := by decide +kernel
theorem dX13_readOne_77 : decode cX13_readOne 77 = .ok (.aload_n 0, 1) := by decide +kernel
theorem dX13_readOne_78 : decode cX13_readOne 78 = .ok (.bipush 126, 2) := by decide +kernel
theorem dX13_readOne_80 : decode cX13_readOne 80 = .ok (.invokevirtual 178, 3) := by decide +kernel
theorem dX13_readOne_83 : decode cX13_readOne 83 = .ok (.ifCond .eq 41, 3) := by decide +kernel
theorem dX13_readOne_86 : decode cX13_readOne 86 = .ok (.aload_n 0, 1) := by decide +kernel
theorem dX13_readOne_87 : decode cX13_readOne 87 = .ok (.dup, 1) := by decide +kernel
theorem dX13_readOne_88 : decode cX13_readOne 88 = .ok (.getfield 171, 3) := by decide +kernel
theorem dX13_readOne_91 : decode cX13_readOne 91 = .ok (.iconst 1, 1) := by decide +kernel
theorem dX13_readOne_92 : decode cX13_readOne 92 = .ok (.iadd, 1) := by decide +kernel
theorem dX13_readOne_93 : decode cX13_readOne 93 = .ok (.putfield 171, 3) := by decide +kernel
theorem dX13_readOne_96 : decode cX13_readOne 96 = .ok (.aload_n 0, 1) := by decide +kernel
theorem dX13_readOne_97 : decode cX13_readOne 97 = .ok (.iload_n 1, 1) := by decide +kernel
theorem dX13_readOne_98 : decode cX13_readOne 98 = .ok (.iconst 1, 1) := by decide +kernel
theorem dX13_readOne_99 : decode cX13_readOne 99 = .ok (.iadd, 1) := by decide +kernel
theorem dX13_readOne_100 : decode cX13_readOne 100 = .ok (.invokevirtual 218, 3) := by decide +kernel
theorem dX13_readOne_103 : decode cX13_readOne 103 = .ok (.istore 4, 2) := by decide +kernel
theorem dX13_readOne_105 : decode cX13_readOne 105 = .ok (.aload_n 0, 1) := by decide +kernel
theorem dX13_readOne_106 : decode cX13_readOne 106 = .ok (.iconst 0, 1) := by decide +kernel
theorem dX13_readOne_107 : decode cX13_readOne 107 = .ok (.iconst 0, 1) := by decide +kernel
theorem dX13_readOne_108 : decode cX13_readOne 108 = .ok (.iload 4, 2) := by decide +kernel
theorem dX13_readOne_110 : decode cX13_readOne 110 = .ok (.aload_n 0, 1) := by decide +kernel
theorem dX13_readOne_111 : decode cX13_readOne 111 = .ok (.iconst 3, 1) := by decide +kernel
theorem dX13_readOne_112 : decode cX13_readOne 112 = .ok (.iconst 0, 1) := by decide +kernel
theorem dX13_readOne_113 : decode cX13_readOne 113 = .ok (.iconst 0, 1) := by decide +kernel
theorem dX13_readOne_114 : decode cX13_readOne 114 = .ok (.iconst 0, 1) := by decide +kernel
theorem dX13_readOne_115 : decode cX13_readOne 115 = .ok (.iconst 0, 1) := by decide +kernel
theorem dX13_readOne_116 : decode cX13_readOne 116 = .ok (.invokevirtual 197, 3) := by decide +kernel
theorem dX13_readOne_119 : decode cX13_readOne 119 = .ok (.iconst 0, 1) := by decide +kernel
theorem dX13_readOne_120 : decode cX13_readOne 120 = .ok (.invokevirtual 197, 3) := by decide +kernel
theorem dX13_readOne_123 : decode cX13_readOne 123 = .ok (.ireturn, 1) := by decide +kernel
theorem dX13_readOne_124 : decode cX13_readOne 124 = .ok (.aload_n 0, 1) := by decide +kernel
theorem dX13_readOne_125 : decode cX13_readOne 125 = .ok (.bipush 40, 2) := by decide +kernel
theorem dX13_readOne_127 : decode cX13_readOne 127 = .ok (.invokevirtual 178, 3) := by decide +kernel
theorem dX13_readOne_130 : decode cX13_readOne 130 = .ok (.ifCond .eq 31, 3) := by decide +kernel
theorem dX13_readOne_133 : decode cX13_readOne 133 = .ok (.aload_n 0, 1) := by decide +kernel
theorem dX13_readOne_134 : decode cX13_readOne 134 = .ok (.dup, 1) := by decide +kernel
theorem dX13_readOne_135 : decode cX13_readOne 135 = .ok (.getfield 171, 3) := by decide +kernel
theorem dX13_readOne_138 : decode cX13_readOne 138 = .ok (.iconst 1, 1) := by decide +kernel
theorem dX13_readOne_139 : decode cX13_readOne 139 = .ok (.iadd, 1) := by decide +kernel
theorem dX13_readOne_140 : decode cX13_readOne 140 = .ok (.putfield 171, 3) := by decide +kernel
theorem dX13_readOne_143 : decode cX13_readOne 143 = .ok (.aload_n 0, 1) := by decide +kernel
theorem dX13_readOne_144 : decode cX13_readOne 144 = .ok (.iload_n 1, 1) := by decide +kernel
theorem dX13_readOne_145 : decode cX13_readOne 145 = .ok (.iconst 1, 1) := by decide +kernel
theorem dX13_readOne_146 : decode cX13_readOne 146 = .ok (.iadd, 1) := by decide +kernel
theorem dX13_readOne_147 : decode cX13_readOne 147 = .ok (.invokevirtual 212, 3) := by decide +kernel
theorem dX13_readOne_150 : decode cX13_readOne 150 = .ok (.istore 4, 2) := by decide +kernel
theorem dX13_readOne_152 : decode cX13_readOne 152 = .ok (.aload_n 0, 1) := by decide +kernel
theorem dX13_readOne_153 : decode cX13_readOne 153 = .ok (.bipush 41, 2) := by decide +kernel
theorem dX13_readOne_155 : decode cX13_readOne 155 = .ok (.invokevirtual 205, 3) := by decide +kernel
theorem dX13_readOne_158 : decode cX13_readOne 158 = .ok (.iload 4, 2) := by decide +kernel
theorem dX13_readOne_160 : decode cX13_readOne 160 = .ok (.ireturn, 1) := by decide +kernel
theorem dX13_readOne_161 : decode cX13_readOne 161 = .ok (.iload_n 3, 1) := by decide +kernel
theorem dX13_readOne_162 : decode cX13_readOne 162 = .ok (.ifCond .eq 61, 3) := by decide +kernel
theorem dX13_readOne_165 : decode cX13_readOne 165 = .ok (.aload_n 0, 1) := by decide +kernel
theorem dX13_readOne_166 : decode cX13_readOne 166 = .ok (.dup, 1) := by decide +kernel
theorem dX13_readOne_167 : decode cX13_readOne 167 = .ok (.getfield 171, 3) := by decide +kernel
theorem dX13_readOne_170 : decode cX13_readOne 170 = .ok (.iconst 1, 1) := by decide +kernel
theorem dX13_readOne_171 : decode cX13_readOne 171 = .ok (.iadd, 1) := by decide +kernel
theorem dX13_readOne_172 : decode cX13_readOne 172 = .ok (.putfield 171, 3) := by decide +kernel
theorem dX13_readOne_175 : decode cX13_readOne 175 = .ok (.aload_n 0, 1) := by decide +kernel
theorem dX13_readOne_176 : decode cX13_readOne 176 = .ok (.invokevirtual 194, 3) := by decide +kernel
theorem dX13_readOne_179 : decode cX13_readOne 179 = .ok (.istore 4, 2) := by decide +kernel
theorem dX13_readOne_181 : decode cX13_readOne 181 = .ok (.aload_n 0, 1) := by decide +kernel
theorem dX13_readOne_182 : decode cX13_readOne 182 = .ok (.bipush 44, 2) := by decide +kernel
theorem dX13_readOne_184 : decode cX13_readOne 184 = .ok (.invokevirtual 205, 3) := by decide +kernel
theorem dX13_readOne_187 : decode cX13_readOne 187 = .ok (.aload_n 0, 1) := by decide +kernel
theorem dX13_readOne_188 : decode cX13_readOne 188 = .ok (.getfield 181, 3) := by decide +kernel
theorem dX13_readOne_191 : decode cX13_readOne 191 = .ok (.ifCond .eq 7, 3) := by decide +kernel
theorem dX13_readOne_194 : decode cX13_readOne 194 = .ok (.iconst 0, 1) := by decide +kernel
theorem dX13_readOne_195 : decode cX13_readOne 195 = .ok (.goto 27, 3) := by decide +kernel
theorem dX13_readOne_198 : decode cX13_readOne 198 = .ok (.aload_n 0, 1) := by decide +kernel
theorem dX13_readOne_199 : decode cX13_readOne 199 = .ok (.iload_n 2, 1) := by decide +kernel
theorem dX13_readOne_200 : decode cX13_readOne 200 = .ok (.ifCond .eq 7, 3) := by decide +kernel
theorem dX13_readOne_203 : decode cX13_readOne 203 = .ok (.iconst 4, 1) := by decide +kernel
theorem dX13_readOne_204 : decode cX13_readOne 204 = .ok (.goto 4, 3) := by decide +kernel
theorem dX13_readOne_207 : decode cX13_readOne 207 = .ok (.iconst 5, 1) := by decide +kernel
theorem dX13_readOne_208 : decode cX13_readOne 208 = .ok (.iload 4, 2) := by decide +kernel
theorem dX13_readOne_210 : decode cX13_readOne 210 = .ok (.aload_n 0, 1) := by decide +kernel
theorem dX13_readOne_211 : decode cX13_readOne 211 = .ok (.iload_n 1, 1) := by decide +kernel
theorem dX13_readOne_212 : decode cX13_readOne 212 = .ok (.iconst 1, 1) := by decide +kernel
theorem dX13_readOne_213 : decode cX13_readOne 213 = .ok (.iadd, 1) := by decide +kernel
theorem dX13_readOne_214 : decode cX13_readOne 214 = .ok (.invokevirtual 212, 3) := by decide +kernel
theorem dX13_readOne_217 : decode cX13_readOne 217 = .ok (.iconst 0, 1) := by decide +kernel
theorem dX13_readOne_218 : decode cX13_readOne 218 = .ok (.iconst 0, 1) := by decide +kernel
theorem dX13_readOne_219 : decode cX13_readOne 219 = .ok (.invokevirtual 197, 3) := by decide +kernel
theorem dX13_readOne_222 : decode cX13_readOne 222 = .ok (.ireturn, 1) := by decide +kernel
theorem dX13_readOne_223 : decode cX13_readOne 223 = .ok (.aload_n 0, 1) := by decide +kernel
theorem dX13_readOne_224 : decode cX13_readOne 224 = .ok (.ldc 192, 2) := by decide +kernel
theorem dX13_readOne_226 : decode cX13_readOne 226 = .ok (.invokevirtual 186, 3) := by decide +kernel
theorem dX13_readOne_229 : decode cX13_readOne 229 = .ok (.ifCond .eq 23, 3) := by decide +kernel
theorem dX13_readOne_232 : decode cX13_readOne 232 = .ok (.aload_n 0, 1) := by decide +kernel
theorem dX13_readOne_233 : decode cX13_readOne 233 = .ok (.dup, 1) := by decide +kernel
theorem dX13_readOne_234 : decode cX13_readOne 234 = .ok (.getfield 171, 3) := by decide +kernel
theorem dX13_readOne_237 : decode cX13_readOne 237 = .ok (.iconst 1, 1) := by decide +kernel
theorem dX13_readOne_238 : decode cX13_readOne 238 = .ok (.iadd, 1) := by decide +kernel
theorem dX13_readOne_239 : decode cX13_readOne 239 = .ok (.putfield 171, 3) := by decide +kernel
theorem dX13_readOne_242 : decode cX13_readOne 242 = .ok (.aload_n 0, 1) := by decide +kernel
theorem dX13_readOne_243 : decode cX13_readOne 243 = .ok (.iconst 3, 1) := by decide +kernel
theorem dX13_readOne_244 : decode cX13_readOne 244 = .ok (.iconst 0, 1) := by decide +kernel
theorem dX13_readOne_245 : decode cX13_readOne 245 = .ok (.iconst 0, 1) := by decide +kernel
theorem dX13_readOne_246 : decode cX13_readOne 246 = .ok (.iconst 0, 1) := by decide +kernel
theorem dX13_readOne_247 : decode cX13_readOne 247 = .ok (.iconst 0, 1) := by decide +kernel
theorem dX13_readOne_248 : decode cX13_readOne 248 = .ok (.invokevirtual 197, 3) := by decide +kernel
theorem dX13_readOne_251 : decode cX13_readOne 251 = .ok (.ireturn, 1) := by decide +kernel
theorem dX13_readOne_252 : decode cX13_readOne 252 = .ok (.aload_n 0, 1) := by decide +kernel
theorem dX13_readOne_253 : decode cX13_readOne 253 = .ok (.iload_n 1, 1) := by decide +kernel
theorem dX13_readOne_254 : decode cX13_readOne 254 = .ok (.invokevirtual 201, 3) := by decide +kernel
theorem dX13_readOne_257 : decode cX13_readOne 257 = .ok (.istore 4, 2) := by decide +kernel
theorem dX13_readOne_259 : decode cX13_readOne 259 = .ok (.aload_n 0, 1) := by decide +kernel
theorem dX13_readOne_260 : decode cX13_readOne 260 = .ok (.getfield 181, 3) := by decide +kernel
theorem dX13_readOne_263 : decode cX13_readOne 263 = .ok (.ifCond .ne 12, 3) := by decide +kernel
theorem dX13_readOne_266 : decode cX13_readOne 266 = .ok (.aload_n 0, 1) := by decide +kernel
theorem dX13_readOne_267 : decode cX13_readOne 267 = .ok (.bipush 61, 2) := by decide +kernel
theorem dX13_readOne_269 : decode cX13_readOne 269 = .ok (.invokevirtual 178, 3) := by decide +kernel
theorem dX13_readOne_272 : decode cX13_readOne 272 = .ok (.ifCond .ne 6, 3) := by decide +kernel
theorem dX13_readOne_275 : decode cX13_readOne 275 = .ok (.iload 4, 2) := by decide +kernel
theorem dX13_readOne_277 : decode cX13_readOne 277 = .ok (.ireturn, 1) := by decide +kernel
theorem dX13_readOne_278 : decode cX13_readOne 278 = .ok (.aload_n 0, 1) := by decide +kernel
theorem dX13_readOne_279 : decode cX13_readOne 279 = .ok (.dup, 1) := by decide +kernel
theorem dX13_readOne_280 : decode cX13_readOne 280 = .ok (.getfield 171, 3) := by decide +kernel
theorem dX13_readOne_283 : decode cX13_readOne 283 = .ok (.iconst 1, 1) := by decide +kernel
theorem dX13_readOne_284 : decode cX13_readOne 284 = .ok (.iadd, 1) := by decide +kernel
theorem dX13_readOne_285 : decode cX13_readOne 285 = .ok (.putfield 171, 3) := by decide +kernel
theorem dX13_readOne_288 : decode cX13_readOne 288 = .ok (.aload_n 0, 1) := by decide +kernel
theorem dX13_readOne_289 : decode cX13_readOne 289 = .ok (.bipush 6, 2) := by decide +kernel
theorem dX13_readOne_291 : decode cX13_readOne 291 = .ok (.iconst 0, 1) := by decide +kernel
theorem dX13_readOne_292 : decode cX13_readOne 292 = .ok (.iload 4, 2) := by decide +kernel
theorem dX13_readOne_294 : decode cX13_readOne 294 = .ok (.aload_n 0, 1) := by decide +kernel
theorem dX13_readOne_295 : decode cX13_readOne 295 = .ok (.iload_n 1, 1) := by decide +kernel
theorem dX13_readOne_296 : decode cX13_readOne 296 = .ok (.invokevirtual 201, 3) := by decide +kernel
theorem dX13_readOne_299 : decode cX13_readOne 299 = .ok (.iconst 0, 1) := by decide +kernel
theorem dX13_readOne_300 : decode cX13_readOne 300 = .ok (.invokevirtual 197, 3) := by decide +kernel
theorem dX13_readOne_303 : decode cX13_readOne 303 = .ok (.ireturn, 1) := by decide +kernel
end
section
theorem dX13_read_0 : decode cX13_read 0 = .ok (.aload_n 0, 1) := by decide +kernel
theorem dX13_read_1 : decode cX13_read 1 = .ok (.iconst 1, 1) := by decide +kernel
theorem dX13_read_2 : decode cX13_read 2 = .ok (.putfield 171, 3) := by decide +kernel
theorem dX13_read_5 : decode cX13_read 5 = .ok (.iload_n 1, 1) := by decide +kernel
theorem dX13_read_6 : decode cX13_read 6 = .ok (.iconst 4, 1) := by decide +kernel
theorem dX13_read_7 : decode cX13_read 7 = .ok (.if_icmp .eq 32, 3) := by decide +kernel
theorem dX13_read_10 : decode cX13_read 10 = .ok (.iload_n 1, 1) := by decide +kernel
theorem dX13_read_11 : decode cX13_read 11 = .ok (.iconst 5, 1) := by decide +kernel
theorem dX13_read_12 : decode cX13_read 12 = .ok (.if_icmp .eq 27, 3) := by decide +kernel
theorem dX13_read_15 : decode cX13_read 15 = .ok (.iload_n 1, 1) := by decide +kernel
theorem dX13_read_16 : decode cX13_read 16 = .ok (.bipush 9, 2) := by decide +kernel
theorem dX13_read_18 : decode cX13_read 18 = .ok (.if_icmp .eq 21, 3) := by decide +kernel
theorem dX13_read_21 : decode cX13_read 21 = .ok (.iload_n 1, 1) := by decide +kernel
theorem dX13_read_22 : decode cX13_read 22 = .ok (.bipush 10, 2) := by decide +kernel
theorem dX13_read_24 : decode cX13_read 24 = .ok (.if_icmp .eq 15, 3) := by decide +kernel
theorem dX13_read_27 : decode cX13_read 27 = .ok (.iload_n 1, 1) := by decide +kernel
theorem dX13_read_28 : decode cX13_read 28 = .ok (.bipush 11, 2) := by decide +kernel
theorem dX13_read_30 : decode cX13_read 30 = .ok (.if_icmp .eq 9, 3) := by decide +kernel
theorem dX13_read_33 : decode cX13_read 33 = .ok (.iload_n 1, 1) := by decide +kernel
theorem dX13_read_34 : decode cX13_read 34 = .ok (.bipush 16, 2) := by decide +kernel
theorem dX13_read_36 : decode cX13_read 36 = .ok (.if_icmp .ne 11, 3) := by decide +kernel
theorem dX13_read_39 : decode cX13_read 39 = .ok (.aload_n 0, 1) := by decide +kernel
theorem dX13_read_40 : decode cX13_read 40 = .ok (.iconst 0, 1) := by decide +kernel
theorem dX13_read_41 : decode cX13_read 41 = .ok (.putfield 291, 3) := by decide +kernel
theorem dX13_read_44 : decode cX13_read 44 = .ok (.goto 29, 3) := by decide +kernel
theorem dX13_read_47 : decode cX13_read 47 = .ok (.iload_n 1, 1) := by decide +kernel
theorem dX13_read_48 : decode cX13_read 48 = .ok (.bipush 14, 2) := by decide +kernel
theorem dX13_read_50 : decode cX13_read 50 = .ok (.if_icmp .ne 15, 3) := by decide +kernel
theorem dX13_read_53 : decode cX13_read 53 = .ok (.aload_n 0, 1) := by decide +kernel
theorem dX13_read_54 : decode cX13_read 54 = .ok (.aload_n 0, 1) := by decide +kernel
theorem dX13_read_55 : decode cX13_read 55 = .ok (.iconst 0, 1) := by decide +kernel
theorem dX13_read_56 : decode cX13_read 56 = .ok (.invokevirtual 201, 3) := by decide +kernel
theorem dX13_read_59 : decode cX13_read 59 = .ok (.putfield 294, 3) := by decide +kernel
theorem dX13_read_62 : decode cX13_read 62 = .ok (.goto 11, 3) := by decide +kernel
theorem dX13_read_65 : decode cX13_read 65 = .ok (.aload_n 0, 1) := by decide +kernel
theorem dX13_read_66 : decode cX13_read 66 = .ok (.aload_n 0, 1) := by decide +kernel
theorem dX13_read_67 : decode cX13_read 67 = .ok (.invokevirtual 194, 3) := by decide +kernel
theorem dX13_read_70 : decode cX13_read 70 = .ok (.putfield 291, 3) := by decide +kernel
theorem dX13_read_73 : decode cX13_read 73 = .ok (.iload_n 1, 1) := by decide +kernel
theorem dX13_read_74 : decode cX13_read 74 = .ok (.iconst 1, 1) := by decide +kernel
theorem dX13_read_75 : decode cX13_read 75 = .ok (.if_icmp .gt 11, 3) := by decide +kernel
theorem dX13_read_78 : decode cX13_read 78 = .ok (.aload_n 0, 1) := by decide +kernel
theorem dX13_read_79 : decode cX13_read 79 = .ok (.aload_n 0, 1) := by decide +kernel
theorem dX13_read_80 : decode cX13_read 80 = .ok (.invokevirtual 297, 3) := by decide +kernel
theorem dX13_read_83 : decode cX13_read 83 = .ok (.putfield 300, 3) := by decide +kernel
theorem dX13_read_86 : decode cX13_read 86 = .ok (.iload_n 1, 1) := by decide +kernel
theorem dX13_read_87 : decode cX13_read 87 = .ok (.iconst 2, 1) := by decide +kernel
theorem dX13_read_88 : decode cX13_read 88 = .ok (.if_icmp .eq 14, 3) := by decide +kernel
theorem dX13_read_91 : decode cX13_read 91 = .ok (.iload_n 1, 1) := by decide +kernel
theorem dX13_read_92 : decode cX13_read 92 = .ok (.iconst 3, 1) := by decide +kernel
theorem dX13_read_93 : decode cX13_read 93 = .ok (.if_icmp .eq 9, 3) := by decide +kernel
theorem dX13_read_96 : decode cX13_read 96 = .ok (.iload_n 1, 1) := by decide +kernel
theorem dX13_read_97 : decode cX13_read 97 = .ok (.bipush 18, 2) := by decide +kernel
theorem dX13_read_99 : decode cX13_read 99 = .ok (.if_icmp .ne 29, 3) := by decide +kernel
theorem dX13_read_102 : decode cX13_read 102 = .ok (.aload_n 0, 1) := by decide +kernel
theorem dX13_read_103 : decode cX13_read 103 = .ok (.bipush 58, 2) := by decide +kernel
theorem dX13_read_105 : decode cX13_read 105 = .ok (.invokevirtual 205, 3) := by decide +kernel
theorem dX13_read_108 : decode cX13_read 108 = .ok (.aload_n 0, 1) := by decide +kernel
theorem dX13_read_109 : decode cX13_read 109 = .ok (.aload_n 0, 1) := by decide +kernel
theorem dX13_read_110 : decode cX13_read 110 = .ok (.getfield 181, 3) := by decide +kernel
theorem dX13_read_113 : decode cX13_read 113 = .ok (.ifCond .eq 7, 3) := by decide +kernel
theorem dX13_read_116 : decode cX13_read 116 = .ok (.iconst 0, 1) := by decide +kernel
theorem dX13_read_117 : decode cX13_read 117 = .ok (.goto 8, 3) := by decide +kernel
theorem dX13_read_120 : decode cX13_read 120 = .ok (.aload_n 0, 1) := by decide +kernel
theorem dX13_read_121 : decode cX13_read 121 = .ok (.iconst 0, 1) := by decide +kernel
theorem dX13_read_122 : decode cX13_read 122 = .ok (.invokevirtual 212, 3) := by decide +kernel
theorem dX13_read_125 : decode cX13_read 125 = .ok (.putfield 294, 3) := by decide +kernel
theorem dX13_read_128 : decode cX13_read 128 = .ok (.iload_n 1, 1) := by decide +kernel
theorem dX13_read_129 : decode cX13_read 129 = .ok (.bipush 12, 2) := by decide +kernel
theorem dX13_read_131 : decode cX13_read 131 = .ok (.if_icmp .ne 19, 3) := by decide +kernel
theorem dX13_read_134 : decode cX13_read 134 = .ok (.aload_n 0, 1) := by decide +kernel
theorem dX13_read_135 : decode cX13_read 135 = .ok (.aload_n 0, 1) := by decide +kernel
theorem dX13_read_136 : decode cX13_read 136 = .ok (.invokevirtual 194, 3) := by decide +kernel
theorem dX13_read_139 : decode cX13_read 139 = .ok (.putfield 303, 3) := by decide +kernel
theorem dX13_read_142 : decode cX13_read 142 = .ok (.aload_n 0, 1) := by decide +kernel
theorem dX13_read_143 : decode cX13_read 143 = .ok (.aload_n 0, 1) := by decide +kernel
theorem dX13_read_144 : decode cX13_read 144 = .ok (.invokevirtual 194, 3) := by decide +kernel
theorem dX13_read_147 : decode cX13_read 147 = .ok (.putfield 306, 3) := by decide +kernel
theorem dX13_read_150 : decode cX13_read 150 = .ok (.iload_n 1, 1) := by decide +kernel
theorem dX13_read_151 : decode cX13_read 151 = .ok (.bipush 15, 2) := by decide +kernel
theorem dX13_read_153 : decode cX13_read 153 = .ok (.if_icmp .ne 31, 3) := by decide +kernel
theorem dX13_read_156 : decode cX13_read 156 = .ok (.aload_n 0, 1) := by decide +kernel
theorem dX13_read_157 : decode cX13_read 157 = .ok (.aload_n 0, 1) := by decide +kernel
theorem dX13_read_158 : decode cX13_read 158 = .ok (.getfield 181, 3) := by decide +kernel
theorem dX13_read_161 : decode cX13_read 161 = .ok (.ifCond .eq 7, 3) := by decide +kernel
theorem dX13_read_164 : decode cX13_read 164 = .ok (.iconst 0, 1) := by decide +kernel
theorem dX13_read_165 : decode cX13_read 165 = .ok (.goto 8, 3) := by decide +kernel
theorem dX13_read_168 : decode cX13_read 168 = .ok (.aload_n 0, 1) := by decide +kernel
theorem dX13_read_169 : decode cX13_read 169 = .ok (.iconst 0, 1) := by decide +kernel
theorem dX13_read_170 : decode cX13_read 170 = .ok (.invokevirtual 201, 3) := by decide +kernel
theorem dX13_read_173 : decode cX13_read 173 = .ok (.putfield 294, 3) := by decide +kernel
theorem dX13_read_176 : decode cX13_read 176 = .ok (.aload_n 0, 1) := by decide +kernel
theorem dX13_read_177 : decode cX13_read 177 = .ok (.aload_n 0, 1) := by decide +kernel
theorem dX13_read_178 : decode cX13_read 178 = .ok (.invokevirtual 194, 3) := by decide +kernel
theorem dX13_read_181 : decode cX13_read 181 = .ok (.putfield 303, 3) := by decide +kernel
theorem dX13_read_184 : decode cX13_read 184 = .ok (.aload_n 0, 1) := by decide +kernel
theorem dX13_read_185 : decode cX13_read 185 = .ok (.bipush 46, 2) := by decide +kernel
theorem dX13_read_187 : decode cX13_read 187 = .ok (.invokevirtual 205, 3) := by decide +kernel
theorem dX13_read_190 : decode cX13_read 190 = .ok (.aload_n 0, 1) := by decide +kernel
theorem dX13_read_191 : decode cX13_read 191 = .ok (.aload_n 0, 1) := by decide +kernel
theorem dX13_read_192 : decode cX13_read 192 = .ok (.getfield 181, 3) := by decide +kernel
theorem dX13_read_195 : decode cX13_read 195 = .ok (.ifCond .ne 14, 3) := by decide +kernel
theorem dX13_read_198 : decode cX13_read 198 = .ok (.aload_n 0, 1) := by decide +kernel
theorem dX13_read_199 : decode cX13_read 199 = .ok (.getfield 171, 3) := by decide +kernel
theorem dX13_read_202 : decode cX13_read 202 = .ok (.aload_n 0, 1) := by decide +kernel
theorem dX13_read_203 : decode cX13_read 203 = .ok (.getfield 140, 3) := by decide +kernel
theorem dX13_read_206 : decode cX13_read 206 = .ok (.if_icmp .eq 7, 3) := by decide +kernel
theorem dX13_read_209 : decode cX13_read 209 = .ok (.iconst 1, 1) := by decide +kernel
theorem dX13_read_210 : decode cX13_read 210 = .ok (.goto 4, 3) := by decide +kernel
theorem dX13_read_213 : decode cX13_read 213 = .ok (.iconst 0, 1) := by decide +kernel
theorem dX13_read_214 : decode cX13_read 214 = .ok (.putfield 181, 3) := by decide +kernel
theorem dX13_read_217 : decode cX13_read 217 = .ok (.return_, 1) := by decide +kernel
end
section
theorem dX13_scan_0 : decode cX13_scan 0 = .ok (.aload_n 0, 1) := by decide +kernel
theorem dX13_scan_1 : decode cX13_scan 1 = .ok (.iconst 0, 1) := by decide +kernel
theorem dX13_scan_2 : decode cX13_scan 2 = .ok (.putfield 140, 3) := by decide +kernel
theorem dX13_scan_5 : decode cX13_scan 5 = .ok (.aload_n 0, 1) := by decide +kernel
theorem dX13_scan_6 : decode cX13_scan 6 = .ok (.iconst 0, 1) := by decide +kernel
theorem dX13_scan_7 : decode cX13_scan 7 = .ok (.putfield 143, 3) := by decide +kernel
theorem dX13_scan_10 : decode cX13_scan 10 = .ok (.iload_n 2, 1) := by decide +kernel
theorem dX13_scan_11 : decode cX13_scan 11 = .ok (.istore 4, 2) := by decide +kernel
theorem dX13_scan_13 : decode cX13_scan 13 = .ok (.iload 4, 2) := by decide +kernel
theorem dX13_scan_15 : decode cX13_scan 15 = .ok (.iload_n 3, 1) := by decide +kernel
theorem dX13_scan_16 : decode cX13_scan 16 = .ok (.if_icmp .ge 312, 3) := by decide +kernel
theorem dX13_scan_19 : decode cX13_scan 19 = .ok (.aload_n 1, 1) := by decide +kernel
theorem dX13_scan_20 : decode cX13_scan 20 = .ok (.iload 4, 2) := by decide +kernel
theorem dX13_scan_22 : decode cX13_scan 22 = .ok (.iaload, 1) := by decide +kernel
theorem dX13_scan_23 : decode cX13_scan 23 = .ok (.istore 5, 2) := by decide +kernel
theorem dX13_scan_25 : decode cX13_scan 25 = .ok (.iload 5, 2) := by decide +kernel
theorem dX13_scan_27 : decode cX13_scan 27 = .ok (.invokestatic 146, 3) := by decide +kernel
theorem dX13_scan_30 : decode cX13_scan 30 = .ok (.ifCond .eq 9, 3) := by decide +kernel
theorem dX13_scan_33 : decode cX13_scan 33 = .ok (.iinc 4 1, 3) := by decide +kernel
theorem dX13_scan_36 : decode cX13_scan 36 = .ok (.goto 289, 3) := by decide +kernel
theorem dX13_scan_39 : decode cX13_scan 39 = .ok (.aload_n 1, 1) := by decide +kernel
theorem dX13_scan_40 : decode cX13_scan 40 = .ok (.iload 4, 2) := by decide +kernel
theorem dX13_scan_42 : decode cX13_scan 42 = .ok (.iload_n 3, 1) := by decide +kernel
theorem dX13_scan_43 : decode cX13_scan 43 = .ok (.invokestatic 149, 3) := by decide +kernel
theorem dX13_scan_46 : decode cX13_scan 46 = .ok (.ifCond .eq 28, 3) := by decide +kernel
theorem dX13_scan_49 : decode cX13_scan 49 = .ok (.aload_n 1, 1) := by decide +kernel
theorem dX13_scan_50 : decode cX13_scan 50 = .ok (.iload 4, 2) := by decide +kernel
theorem dX13_scan_52 : decode cX13_scan 52 = .ok (.iload_n 3, 1) := by decide +kernel
theorem dX13_scan_53 : decode cX13_scan 53 = .ok (.invokestatic 153, 3) := by decide +kernel
theorem dX13_scan_56 : decode cX13_scan 56 = .ok (.istore 6, 2) := by decide +kernel
theorem dX13_scan_58 : decode cX13_scan 58 = .ok (.iload 6, 2) := by decide +kernel
theorem dX13_scan_60 : decode cX13_scan 60 = .ok (.ifCond .ge 7, 3) := by decide +kernel
theorem dX13_scan_63 : decode cX13_scan 63 = .ok (.iload_n 3, 1) := by decide +kernel
theorem dX13_scan_64 : decode cX13_scan 64 = .ok (.goto 5, 3) := by decide +kernel
theorem dX13_scan_67 : decode cX13_scan 67 = .ok (.iload 6, 2) := by decide +kernel
theorem dX13_scan_69 : decode cX13_scan 69 = .ok (.istore 4, 2) := by decide +kernel
theorem dX13_scan_71 : decode cX13_scan 71 = .ok (.goto 254, 3) := by decide +kernel
theorem dX13_scan_74 : decode cX13_scan 74 = .ok (.iload 5, 2) := by decide +kernel
theorem dX13_scan_76 : decode cX13_scan 76 = .ok (.invokestatic 136, 3) := by decide +kernel
theorem dX13_scan_79 : decode cX13_scan 79 = .ok (.ifCond .eq 73, 3) := by decide +kernel
theorem dX13_scan_82 : decode cX13_scan 82 = .ok (.iload 4, 2) := by decide +kernel
theorem dX13_scan_84 : decode cX13_scan 84 = .ok (.istore 6, 2) := by decide +kernel
theorem dX13_scan_86 : decode cX13_scan 86 = .ok (.iload 4, 2) := by decide +kernel
theorem dX13_scan_88 : decode cX13_scan 88 = .ok (.iload_n 3, 1) := by decide +kernel
theorem dX13_scan_89 : decode cX13_scan 89 = .ok (.if_icmp .ge 19, 3) := by decide +kernel
theorem dX13_scan_92 : decode cX13_scan 92 = .ok (.aload_n 1, 1) := by decide +kernel
theorem dX13_scan_93 : decode cX13_scan 93 = .ok (.iload 4, 2) := by decide +kernel
theorem dX13_scan_95 : decode cX13_scan 95 = .ok (.iaload, 1) := by decide +kernel
theorem dX13_scan_96 : decode cX13_scan 96 = .ok (.invokestatic 157, 3) := by decide +kernel
theorem dX13_scan_99 : decode cX13_scan 99 = .ok (.ifCond .eq 9, 3) := by decide +kernel
theorem dX13_scan_102 : decode cX13_scan 102 = .ok (.iinc 4 1, 3) := by decide +kernel
theorem dX13_scan_105 : decode cX13_scan 105 = .ok (.goto (-19), 3) := by decide +kernel
theorem dX13_scan_108 : decode cX13_scan 108 = .ok (.iload 4, 2) := by decide +kernel
theorem dX13_scan_110 : decode cX13_scan 110 = .ok (.iload 6, 2) := by decide +kernel
theorem dX13_scan_112 : decode cX13_scan 112 = .ok (.isub, 1) := by decide +kernel
theorem dX13_scan_113 : decode cX13_scan 113 = .ok (.bipush 10, 2) := by decide +kernel
theorem dX13_scan_115 : decode cX13_scan 115 = .ok (.if_icmp .le 20, 3) := by decide +kernel
theorem dX13_scan_118 : decode cX13_scan 118 = .ok (.aload_n 0, 1) := by decide +kernel
theorem dX13_scan_119 : decode cX13_scan 119 = .ok (.dup, 1) := by decide +kernel
theorem dX13_scan_120 : decode cX13_scan 120 = .ok (.getfield 143, 3) := by decide +kernel
theorem dX13_scan_123 : decode cX13_scan 123 = .ok (.iload 4, 2) := by decide +kernel
theorem dX13_scan_125 : decode cX13_scan 125 = .ok (.iload 6, 2) := by decide +kernel
theorem dX13_scan_127 : decode cX13_scan 127 = .ok (.isub, 1) := by decide +kernel
theorem dX13_scan_128 : decode cX13_scan 128 = .ok (.iadd, 1) := by decide +kernel
theorem dX13_scan_129 : decode cX13_scan 129 = .ok (.putfield 143, 3) := by decide +kernel
theorem dX13_scan_132 : decode cX13_scan 132 = .ok (.goto 17, 3) := by decide +kernel
theorem dX13_scan_135 : decode cX13_scan 135 = .ok (.aload_n 0, 1) := by decide +kernel
theorem dX13_scan_136 : decode cX13_scan 136 = .ok (.iconst 1, 1) := by decide +kernel
theorem dX13_scan_137 : decode cX13_scan 137 = .ok (.aload_n 0, 1) := by decide +kernel
theorem dX13_scan_138 : decode cX13_scan 138 = .ok (.aload_n 1, 1) := by decide +kernel
theorem dX13_scan_139 : decode cX13_scan 139 = .ok (.iload 6, 2) := by decide +kernel
theorem dX13_scan_141 : decode cX13_scan 141 = .ok (.iload 4, 2) := by decide +kernel
theorem dX13_scan_143 : decode cX13_scan 143 = .ok (.invokevirtual 160, 3) := by decide +kernel
theorem dX13_scan_146 : decode cX13_scan 146 = .ok (.invokevirtual 163, 3) := by decide +kernel
theorem dX13_scan_149 : decode cX13_scan 149 = .ok (.goto 176, 3) := by decide +kernel
theorem dX13_scan_152 : decode cX13_scan 152 = .ok (.iload 5, 2) := by decide +kernel
theorem dX13_scan_154 : decode cX13_scan 154 = .ok (.bipush 48, 2) := by decide +kernel
theorem dX13_scan_156 : decode cX13_scan 156 = .ok (.bipush 57, 2) := by decide +kernel
theorem dX13_scan_158 : decode cX13_scan 158 = .ok (.invokestatic 132, 3) := by decide +kernel
theorem dX13_scan_161 : decode cX13_scan 161 = .ok (.ifCond .eq 19, 3) := by decide +kernel
theorem dX13_scan_164 : decode cX13_scan 164 = .ok (.aload_n 0, 1) := by decide +kernel
theorem dX13_scan_165 : decode cX13_scan 165 = .ok (.iconst 2, 1) := by decide +kernel
theorem dX13_scan_166 : decode cX13_scan 166 = .ok (.iload 5, 2) := by decide +kernel
theorem dX13_scan_168 : decode cX13_scan 168 = .ok (.bipush 48, 2) := by decide +kernel
theorem dX13_scan_170 : decode cX13_scan 170 = .ok (.isub, 1) := by decide +kernel
theorem dX13_scan_171 : decode cX13_scan 171 = .ok (.invokevirtual 163, 3) := by decide +kernel
theorem dX13_scan_174 : decode cX13_scan 174 = .ok (.iinc 4 1, 3) := by decide +kernel
theorem dX13_scan_177 : decode cX13_scan 177 = .ok (.goto 148, 3) := by decide +kernel
theorem dX13_scan_180 : decode cX13_scan 180 = .ok (.iload 5, 2) := by decide +kernel
theorem dX13_scan_182 : decode cX13_scan 182 = .ok (.bipush 45, 2) := by decide +kernel
theorem dX13_scan_184 : decode cX13_scan 184 = .ok (.if_icmp .ne 35, 3) := by decide +kernel
theorem dX13_scan_187 : decode cX13_scan 187 = .ok (.iload 4, 2) := by decide +kernel
theorem dX13_scan_189 : decode cX13_scan 189 = .ok (.iconst 1, 1) := by decide +kernel
theorem dX13_scan_190 : decode cX13_scan 190 = .ok (.iadd, 1) := by decide +kernel
theorem dX13_scan_191 : decode cX13_scan 191 = .ok (.iload_n 3, 1) := by decide +kernel
theorem dX13_scan_192 : decode cX13_scan 192 = .ok (.if_icmp .ge 27, 3) := by decide +kernel
theorem dX13_scan_195 : decode cX13_scan 195 = .ok (.aload_n 1, 1) := by decide +kernel
theorem dX13_scan_196 : decode cX13_scan 196 = .ok (.iload 4, 2) := by decide +kernel
theorem dX13_scan_198 : decode cX13_scan 198 = .ok (.iconst 1, 1) := by decide +kernel
theorem dX13_scan_199 : decode cX13_scan 199 = .ok (.iadd, 1) := by decide +kernel
theorem dX13_scan_200 : decode cX13_scan 200 = .ok (.iaload, 1) := by decide +kernel
theorem dX13_scan_201 : decode cX13_scan 201 = .ok (.bipush 62, 2) := by decide +kernel
theorem dX13_scan_203 : decode cX13_scan 203 = .ok (.if_icmp .ne 16, 3) := by decide +kernel
theorem dX13_scan_206 : decode cX13_scan 206 = .ok (.aload_n 0, 1) := by decide +kernel
theorem dX13_scan_207 : decode cX13_scan 207 = .ok (.iconst 3, 1) := by decide +kernel
theorem dX13_scan_208 : decode cX13_scan 208 = .ok (.bipush 62, 2) := by decide +kernel
theorem dX13_scan_210 : decode cX13_scan 210 = .ok (.invokevirtual 163, 3) := by decide +kernel
theorem dX13_scan_213 : decode cX13_scan 213 = .ok (.iinc 4 2, 3) := by decide +kernel
theorem dX13_scan_216 : decode cX13_scan 216 = .ok (.goto 109, 3) := by decide +kernel
theorem dX13_scan_219 : decode cX13_scan 219 = .ok (.iload 5, 2) := by decide +kernel
theorem dX13_scan_221 : decode cX13_scan 221 = .ok (.bipush 42, 2) := by decide +kernel
theorem dX13_scan_223 : decode cX13_scan 223 = .ok (.if_icmp .eq 67, 3) := by decide +kernel
theorem dX13_scan_226 : decode cX13_scan 226 = .ok (.iload 5, 2) := by decide +kernel
theorem dX13_scan_228 : decode cX13_scan 228 = .ok (.bipush 43, 2) := by decide +kernel
theorem dX13_scan_230 : decode cX13_scan 230 = .ok (.if_icmp .eq 60, 3) := by decide +kernel
theorem dX13_scan_233 : decode cX13_scan 233 = .ok (.iload 5, 2) := by decide +kernel
theorem dX13_scan_235 : decode cX13_scan 235 = .ok (.bipush 126, 2) := by decide +kernel
theorem dX13_scan_237 : decode cX13_scan 237 = .ok (.if_icmp .eq 53, 3) := by decide +kernel
theorem dX13_scan_240 : decode cX13_scan 240 = .ok (.iload 5, 2) := by decide +kernel
theorem dX13_scan_242 : decode cX13_scan 242 = .ok (.bipush 61, 2) := by decide +kernel
theorem dX13_scan_244 : decode cX13_scan 244 = .ok (.if_icmp .eq 46, 3) := by decide +kernel
theorem dX13_scan_247 : decode cX13_scan 247 = .ok (.iload 5, 2) := by decide +kernel
theorem dX13_scan_249 : decode cX13_scan 249 = .ok (.bipush 58, 2) := by decide +kernel
theorem dX13_scan_251 : decode cX13_scan 251 = .ok (.if_icmp .eq 39, 3) := by decide +kernel
theorem dX13_scan_254 : decode cX13_scan 254 = .ok (.iload 5, 2) := by decide +kernel
theorem dX13_scan_256 : decode cX13_scan 256 = .ok (.bipush 44, 2) := by decide +kernel
theorem dX13_scan_258 : decode cX13_scan 258 = .ok (.if_icmp .eq 32, 3) := by decide +kernel
theorem dX13_scan_261 : decode cX13_scan 261 = .ok (.iload 5, 2) := by decide +kernel
theorem dX13_scan_263 : decode cX13_scan 263 = .ok (.bipush 40, 2) := by decide +kernel
theorem dX13_scan_265 : decode cX13_scan 265 = .ok (.if_icmp .eq 25, 3) := by decide +kernel
theorem dX13_scan_268 : decode cX13_scan 268 = .ok (.iload 5, 2) := by decide +kernel
theorem dX13_scan_270 : decode cX13_scan 270 = .ok (.bipush 41, 2) := by decide +kernel
theorem dX13_scan_272 : decode cX13_scan 272 = .ok (.if_icmp .eq 18, 3) := by decide +kernel
theorem dX13_scan_275 : decode cX13_scan 275 = .ok (.iload 5, 2) := by decide +kernel
theorem dX13_scan_277 : decode cX13_scan 277 = .ok (.bipush 46, 2) := by decide +kernel
theorem dX13_scan_279 : decode cX13_scan 279 = .ok (.if_icmp .ne 15, 3) := by decide +kernel
theorem dX13_scan_282 : decode cX13_scan 282 = .ok (.iload 4, 2) := by decide +kernel
theorem dX13_scan_284 : decode cX13_scan 284 = .ok (.iconst 1, 1) := by decide +kernel
theorem dX13_scan_285 : decode cX13_scan 285 = .ok (.iadd, 1) := by decide +kernel
theorem dX13_scan_286 : decode cX13_scan 286 = .ok (.iload_n 3, 1) := by decide +kernel
theorem dX13_scan_287 : decode cX13_scan 287 = .ok (.if_icmp .ne 7, 3) := by decide +kernel
theorem dX13_scan_290 : decode cX13_scan 290 = .ok (.iconst 1, 1) := by decide +kernel
theorem dX13_scan_291 : decode cX13_scan 291 = .ok (.goto 4, 3) := by decide +kernel
theorem dX13_scan_294 : decode cX13_scan 294 = .ok (.iconst 0, 1) := by decide +kernel
theorem dX13_scan_295 : decode cX13_scan 295 = .ok (.istore 6, 2) := by decide +kernel
theorem dX13_scan_297 : decode cX13_scan 297 = .ok (.iload 6, 2) := by decide +kernel
theorem dX13_scan_299 : decode cX13_scan 299 = .ok (.ifCond .eq 13, 3) := by decide +kernel
theorem dX13_scan_302 : decode cX13_scan 302 = .ok (.aload_n 0, 1) := by decide +kernel
theorem dX13_scan_303 : decode cX13_scan 303 = .ok (.iconst 3, 1) := by decide +kernel
theorem dX13_scan_304 : decode cX13_scan 304 = .ok (.iload 5, 2) := by decide +kernel
theorem dX13_scan_306 : decode cX13_scan 306 = .ok (.invokevirtual 163, 3) := by decide +kernel
theorem dX13_scan_309 : decode cX13_scan 309 = .ok (.goto 13, 3) := by decide +kernel
theorem dX13_scan_312 : decode cX13_scan 312 = .ok (.aload_n 0, 1) := by decide +kernel
theorem dX13_scan_313 : decode cX13_scan 313 = .ok (.dup, 1) := by decide +kernel
theorem dX13_scan_314 : decode cX13_scan 314 = .ok (.getfield 143, 3) := by decide +kernel
theorem dX13_scan_317 : decode cX13_scan 317 = .ok (.iconst 1, 1) := by decide +kernel
theorem dX13_scan_318 : decode cX13_scan 318 = .ok (.iadd, 1) := by decide +kernel
theorem dX13_scan_319 : decode cX13_scan 319 = .ok (.putfield 143, 3) := by decide +kernel
theorem dX13_scan_322 : decode cX13_scan 322 = .ok (.iinc 4 1, 3) := by decide +kernel
theorem dX13_scan_325 : decode cX13_scan 325 = .ok (.goto (-312), 3) := by decide +kernel
theorem dX13_scan_328 : decode cX13_scan 328 = .ok (.return_, 1) := by decide +kernel
theorem dX13_cost_0 : decode cX13_cost 0 = .ok (.iload 4, 2) := by decide +kernel
theorem dX13_cost_2 : decode cX13_cost 2 = .ok (.ifCond .le 5, 3) := by decide +kernel
theorem dX13_cost_5 : decode cX13_cost 5 = .ok (.iconst 4, 1) := by decide +kernel
theorem dX13_cost_6 : decode cX13_cost 6 = .ok (.ireturn, 1) := by decide +kernel
theorem dX13_cost_7 : decode cX13_cost 7 = .ok (.aload_n 0, 1) := by decide +kernel
theorem dX13_cost_8 : decode cX13_cost 8 = .ok (.getfield 103, 3) := by decide +kernel
theorem dX13_cost_11 : decode cX13_cost 11 = .ok (.istore 5, 2) := by decide +kernel
theorem dX13_cost_13 : decode cX13_cost 13 = .ok (.aload_n 0, 1) := by decide +kernel
theorem dX13_cost_14 : decode cX13_cost 14 = .ok (.getfield 106, 3) := by decide +kernel
theorem dX13_cost_17 : decode cX13_cost 17 = .ok (.istore 6, 2) := by decide +kernel
theorem dX13_cost_19 : decode cX13_cost 19 = .ok (.aload_n 0, 1) := by decide +kernel
theorem dX13_cost_20 : decode cX13_cost 20 = .ok (.aload_n 1, 1) := by decide +kernel
theorem dX13_cost_21 : decode cX13_cost 21 = .ok (.iload_n 2, 1) := by decide +kernel
theorem dX13_cost_22 : decode cX13_cost 22 = .ok (.iload_n 3, 1) := by decide +kernel
theorem dX13_cost_23 : decode cX13_cost 23 = .ok (.invokevirtual 167, 3) := by decide +kernel
theorem dX13_cost_26 : decode cX13_cost 26 = .ok (.aload_n 0, 1) := by decide +kernel
theorem dX13_cost_27 : decode cX13_cost 27 = .ok (.iload 5, 2) := by decide +kernel
theorem dX13_cost_29 : decode cX13_cost 29 = .ok (.putfield 103, 3) := by decide +kernel
theorem dX13_cost_32 : decode cX13_cost 32 = .ok (.aload_n 0, 1) := by decide +kernel
theorem dX13_cost_33 : decode cX13_cost 33 = .ok (.iload 6, 2) := by decide +kernel
theorem dX13_cost_35 : decode cX13_cost 35 = .ok (.putfield 106, 3) := by decide +kernel
theorem dX13_cost_38 : decode cX13_cost 38 = .ok (.iconst 3, 1) := by decide +kernel
theorem dX13_cost_39 : decode cX13_cost 39 = .ok (.aload_n 0, 1) := by decide +kernel
theorem dX13_cost_40 : decode cX13_cost 40 = .ok (.getfield 140, 3) := by decide +kernel
theorem dX13_cost_43 : decode cX13_cost 43 = .ok (.iadd, 1) := by decide +kernel
theorem dX13_cost_44 : decode cX13_cost 44 = .ok (.aload_n 0, 1) := by decide +kernel
theorem dX13_cost_45 : decode cX13_cost 45 = .ok (.getfield 143, 3) := by decide +kernel
theorem dX13_cost_48 : decode cX13_cost 48 = .ok (.iadd, 1) := by decide +kernel
theorem dX13_cost_49 : decode cX13_cost 49 = .ok (.ireturn, 1) := by decide +kernel
end
