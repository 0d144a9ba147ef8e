section
def EX6_findB : List (Nat × Nat) := [(8, 3), (102, 0), (132, 0), (133, 0)]
set_option maxHeartbeats 4000000 in
set_option maxRecDepth 20000 in
theorem uX6_findB (l : Launch) (dC : Nat → ClassId) (dI : Nat → Nat → Nat) (ca : Nat → ClassId) (base : Nat) (B : jF) (hB : jBok B) (hAp : jAp (dC, dI)) (hB8 : ∀ n G a H, B 8 n G a H ↔ jOb (dC, dI) 8 4 (F8 n G) a H) (hB102 : ∀ n G a H, B 102 n G a H ↔ jAl (dC, dI) (ca 2) n a H) (hB132 : ∀ n G a H, B 132 n G a H ↔ jAr (dC, dI) (ca 1) (fun j z => 0 ≤ z.toInt ∧ z.toInt ≤ 10) n a H) (hB133 : ∀ n G a H, B 133 n G a H ↔ jAr (dC, dI) (ca 1) (fun j z => 0 ≤ z.toInt ∧ z.toInt ≤ 8192) n a H) (G0 : jT) (H0 : Heap) (r0 : Nat) (a1 : Int64) (a3 : Int32) (a4 : Int32) (xs : Nat) (xp : Nat) (xl : Nat) : Met l yX6_find (jw yX6_find cX6_find 9 (some .int)) ({ frames := 0, cells := 0, slots := 0, locals := 0 }) (va_Pc [.ref r0, .long a1, .int a3, .int a4] (fun U => U.heap = H0 ∧ jX B base G0 [] H0 ∧ jG dC dI ca base U ∧ G0 r0 = some (8, 0) ∧ G0 xs = some (102, 8192) ∧ G0 xp = some (132, 8192) ∧ G0 xl = some (133, 16384) ∧ jP (dC, dI) G0 H0 [(r0, 8, 0, .ref xs), (r0, 8, 1, .ref xp), (r0, 8, 2, .ref xl)] ∧ 0 ≤ a3.toInt ∧ a3.toInt ≤ 10)) (va_Qi (S := Unit) (fun r u => (-1 ≤ r.toInt ∧ r.toInt ≤ 8191)) (fun u t => (jRt (dC, dI) B base G0 EX6_findB H0 [] t.heap) ∧ jKl [r0, xs, xp, xl] H0 t.heap) (jA base)) 0 0 (jA base) := by
  refine Met.ofW (cc := cX6_find) (maxL := 9) (ret := (some .int)) (by decide) rfl ?_
  intro p e s m args below meth c s₁ Bd hml hv
  obtain ⟨rfl, hH0, hX, hG, hg_r0, hg_xs, hg_xp, hg_xl, hP0, hp0, hp1⟩ := hv
  have hK := hG.1
  have hx := Bd.exec
  have hb := Bd.bytes
  have hr := Bd.returns
  have hts := atoms_spec (ws := (jw yX6_find cX6_find 9 (some .int))) Bd.pre
  have htw : ∀ w ∈ jWl, w.before _ s = true := fun w h => hts w (List.mem_cons_of_mem _ h)
  have hown : s.vm.findClass RX6 = some m.cls := findClass_of_methodNamed Bd.named
  have hlocks := Bd.notSynchronized
  obtain ⟨Q, hQ⟩ : ∃ Q, Q = MQ below (va_Qi (S := Unit) (fun r u => (-1 ≤ r.toInt ∧ r.toInt ≤ 8191)) (fun u t => (jRt (dC, dI) B base G0 EX6_findB H0 [] t.heap) ∧ jKl [r0, xs, xp, xl] H0 t.heap) (jA base)) ([.ref r0, .long a1, .int a3, .int a4] : List Value).toArray s 0 0 (jA base) := ⟨_, rfl⟩
  rw [← hQ]
  have hl := lv_entry ([.ref r0, .long a1, .int a3, .int a4]) (n := 9) (Nat.le_of_ble_eq_true rfl)
  rw [lg_entry_eq]
  generalize (lg_sl ([.ref r0, .long a1, .int a3, .int a4]) ++ List.replicate (9 - (lg_sl ([.ref r0, .long a1, .int a3, .int a4])).length) Slot.unset).toArray = ls at hl ⊢
  have hl : lv_has ls 9 [(0, .ref r0), (1, .long a1), (3, .int a3), (4, .int a4)] := hl
  generalize hR : (headSpec (jw yX6_find cX6_find 9 (some .int)) ({ frames := 0, cells := 0, slots := 0, locals := 0 })).room = R
  subst hH0
  have hh : jSt (dC, dI) B base G0 G0 EX6_findB s.heap 0 0 [(r0, 8, 0, .ref xs), (r0, 8, 1, .ref xp), (r0, 8, 2, .ref xl)] [] [] s.heap [] := jSt.start hX hP0 jMc.nil jIs.nil
  clear hX hP0
  have hkm1 : ((-1) : Int32).toInt = (-1) := by decide
  have hk0 : (0 : Int32).toInt = 0 := by decide
  have hk1 : (1 : Int32).toInt = 1 := by decide
  have hk31 : (31 : Int32).toInt = 31 := by decide
  have hk40 : (40 : Int32).toInt = 40 := by decide
  have hk8192 : (8192 : Int32).toInt = 8192 := by decide
  have hk16383 : (16383 : Int32).toInt = 16383 := by decide
  have hk16384 : (16384 : Int32).toInt = 16384 := by decide
  have hly_8_0 := htw (u_lay RX6 TX6 0) (jWc_wsX60 _ (u_in_lay (by decide)))
  have hly_8_1 := htw (u_lay RX6 TX6 1) (jWc_wsX60 _ (u_in_lay (by decide)))
  have hly_8_2 := htw (u_lay RX6 TX6 2) (jWc_wsX60 _ (u_in_lay (by decide)))
  have hly_8_3 := htw (u_lay RX6 TX6 3) (jWc_wsX60 _ (u_in_lay (by decide)))
  have hlk_19 := (htw (.fieldLink RX6 19 "ProofServer$Names" "slots" "[I") (jWr_5 _ (List.mem_of_getElem? (i := 11) rfl)))
  have hlk_52 := (htw (.fieldLink RX6 52 "ProofServer$Names" "count" "I") (jWr_8 _ (List.mem_of_getElem? (i := 3) rfl)))
  have hlk_11 := (htw (.fieldLink RX6 11 "ProofServer$Names" "stems" "[J") (jWr_5 _ (List.mem_of_getElem? (i := 9) rfl)))
  have hlk_15 := (htw (.fieldLink RX6 15 "ProofServer$Names" "primes" "[I") (jWr_5 _ (List.mem_of_getElem? (i := 10) rfl)))
  have hrg_a3 := jb_rng a3
  have hrg_a4 := jb_rng a4
  have hfl : jKl [r0, xs, xp, xl] s.heap s.heap := jKl.rf
  refine lv_lload_n hx hb dX6_find_0 rfl (lv_at hl 1 rfl) ?_
  refine lv_ldc2 hx hb hown (htw (.constantLong RX6 50 (-7046029254386353131)) (jWr_8 _ (List.mem_of_getElem? (i := 2) rfl))) dX6_find_1 ?_
  refine lv_lmul hx hb dX6_find_4 ?_
  refine lv_topl (fun z_1 ez_1 => ?_)
  refine lv_bipush (v := 40) hx hb dX6_find_5 (by decide) ?_
  refine lv_lushr hx hb dX6_find_7 rfl ?_
  refine lv_topl (fun z_2 ez_2 => ?_)
  refine lv_l2i hx hb dX6_find_8 rfl ?_
  refine lv_topi (fun z_3 ez_3 => ?_)
  refine lv_bipush (v := 31) hx hb dX6_find_9 (by decide) ?_
  refine lv_iload_n hx hb dX6_find_11 rfl (lv_at hl 2 rfl) ?_
  refine lv_imul hx hb dX6_find_12 ?_
  refine lv_topi (fun z_4 ez_4 => ?_)
  refine lv_iadd hx hb dX6_find_13 ?_
  refine lv_topi (fun z_5 ez_5 => ?_)
  refine lv_istore (lv' := [(5, .int z_5), (0, .ref r0), (1, .long a1), (3, .int a3), (4, .int a4)]) hx hb dX6_find_14 hl (by decide) rfl (fun ls hl => ?_)
  refine lv_iconst (v := 0) hx hb dX6_find_16 (by decide) ?_
  refine lv_istore (lv' := [(6, .int 0), (5, .int z_5), (0, .ref r0), (1, .long a1), (3, .int a3), (4, .int a4)]) hx hb dX6_find_17 hl (by decide) rfl (fun ls hl => ?_)
  have L19 : ∀ (N : Nat) (v6_6 : Int32) (H_6 : Heap) (locs_6 : List Loc), jSt (dC, dI) B base G0 G0 EX6_findB s.heap 0 0 [(r0, 8, 0, .ref xs), (r0, 8, 1, .ref xp), (r0, 8, 2, .ref xl)] [] [] H_6 locs_6 → jKl [r0, xs, xp, xl] s.heap H_6 → (0 ≤ v6_6.toInt ∧ v6_6.toInt ≤ 16384) → (16384 - v6_6.toInt : Int) < N → ∀ ls : Array Slot, lv_has ls 9 [(0, .ref r0), (1, .long a1), (3, .int a3), (4, .int a4), (5, .int z_5), (6, .int v6_6)] → W p l e R s m ([.ref r0, .long a1, .int a3, .int a4] : List Value).toArray below meth c H_6 locs_6 0 0 Q (F0 m 19 ls []) := by
    intro N
    induction N with
    | zero => intro v6_6 H_6 locs_6 hh_6 hfl_6 hi_6 hm; exact absurd hm (by omega)
    | succ N L19 =>
      intro v6_6 H_6 locs_6 hh_6 hfl_6 hi_6 hm_6 ls hl
      obtain ⟨hi_6_0, hi_6_1⟩ := hi_6
      refine lv_iload hx hb dX6_find_19 (lv_at hl 5 rfl) ?_
      refine lv_sipush (v := 16384) hx hb dX6_find_21 (by decide) ?_
      refine lv_icmp_ge (tgt := 151) hx hb dX6_find_24 (by decide) (fun c_7 => ?_) (fun c_7 => ?_)
      · skip
        have c_7' : v6_6.toInt ≥ 16384 := jb_ge (rfl) ((by decide)) c_7
        refine lv_iconst (v := (-1)) hx hb dX6_find_151 (by decide) ?_
        rw [hQ]
        exact W.iret (v := (-1)) hx hb hr (fun t ht hW => ⟨⟨(-1), (), rfl, by first | omega | (refine ⟨?_, ?_⟩ <;> (first | omega | rfl | assumption | decide | exact Or.inl rfl | exact Or.inr rfl | (simp only; omega))), ⟨hh_6.rt (M1 := []) [] rfl ht, by rw [ht]; exact hfl_6⟩⟩, by rw [ht]; try exact hh_6.1.1, fun q h9 hq => by rw [ht]; try exact hh_6.1.2.1 q h9 hq⟩) hh_6.1.2.2 dX6_find_152
      · skip
        have c_7' : v6_6.toInt < 16384 := jb_ge_n (rfl) ((by decide)) c_7
        refine lv_iload hx hb dX6_find_27 (lv_at hl 4 rfl) ?_
        refine lv_iload hx hb dX6_find_29 (lv_at hl 5 rfl) ?_
        refine lv_iadd hx hb dX6_find_31 ?_
        refine lv_topi (fun z_8 ez_8 => ?_)
        refine lv_sipush (v := 16383) hx hb dX6_find_32 (by decide) ?_
        refine lv_iand hx hb dX6_find_35 ?_
        refine lv_topi (fun z_9 ez_9 => ?_)
        have hz_9 : 0 ≤ z_9.toInt ∧ z_9.toInt ≤ 16383 := by rw [ez_9]; exact jb_and z_8 (m := 16383) (k := 14) (by decide) (by decide)
        refine lv_istore (lv' := [(7, .int z_9), (0, .ref r0), (1, .long a1), (3, .int a3), (4, .int a4), (5, .int z_5), (6, .int v6_6)]) hx hb dX6_find_36 hl (by decide) rfl (fun ls hl => ?_)
        refine lv_aload_n hx hb dX6_find_38 rfl (lv_at hl 1 rfl) ?_
        refine j7_read hx hb hown hK (C := RX6) (T := TX6) (N := 4) rfl hly_8_2 hlk_19 (hh_6.at 2 rfl) dX6_find_39 ?_
        refine lv_iload hx hb dX6_find_42 (lv_at hl 0 rfl) ?_
        refine j7_iald hx hb hK hh_6 hB133 1 rfl (by decide) hg_xl (x := z_9.toInt) (rfl) (by omega) dX6_find_44 (fun z_10 (hz_10 : 0 ≤ z_10.toInt ∧ z_10.toInt ≤ 8192) => ?_)
        refine lv_iconst (v := 1) hx hb dX6_find_45 (by decide) ?_
        refine lv_isub hx hb dX6_find_46 ?_
        refine lv_topi (fun z_11 ez_11 => ?_)
        have hz_11 : z_11.toInt = z_10.toInt - 1 := by rw [ez_11]; exact jb_isub2 (rfl) ((by decide)) (by omega)
        refine lv_istore (lv' := [(8, .int z_11), (7, .int z_9), (0, .ref r0), (1, .long a1), (3, .int a3), (4, .int a4), (5, .int z_5), (6, .int v6_6)]) hx hb dX6_find_47 hl (by decide) rfl (fun ls hl => ?_)
        refine lv_iload hx hb dX6_find_49 (lv_at hl 0 rfl) ?_
        refine lv_if_ge (tgt := 119) hx hb dX6_find_51 (by decide) (fun c_12 => ?_) (fun c_12 => ?_)
        · skip
          have c_12' : z_11.toInt ≥ 0 := jb_ge (rfl) ((by decide)) c_12
          refine lv_aload_n hx hb dX6_find_119 rfl (lv_at hl 2 rfl) ?_
          refine j7_read hx hb hown hK (C := RX6) (T := TX6) (N := 4) rfl hly_8_0 hlk_11 (hh_6.at 0 rfl) dX6_find_120 ?_
          refine lv_iload hx hb dX6_find_123 (lv_at hl 0 rfl) ?_
          refine j7_lald hx hb hK hh_6 hB102 2 rfl (by decide) hg_xs (x := z_11.toInt) (rfl) (by omega) dX6_find_125 (fun z_13 => ?_)
          refine lv_lload_n hx hb dX6_find_126 rfl (lv_at hl 3 rfl) ?_
          refine W.lcmp hx hb dX6_find_127 ?_
          refine lv_topi (fun z_14 ez_14 => ?_)
          have hz_14 := jb_lcmp ez_14
          refine lv_if_ne (tgt := 145) hx hb dX6_find_128 (by decide) (fun c_15 => ?_) (fun c_15 => ?_)
          · skip
            have c_15' : z_14.toInt ≠ 0 := jb_ne (rfl) ((by decide)) c_15
            obtain ⟨z_16, ez_16⟩ : ∃ y : Int32, y = v6_6 + 1 := ⟨_, rfl⟩
            refine lv_iinc (v := z_16) (lv' := [(6, .int z_16), (8, .int z_11), (7, .int z_9), (0, .ref r0), (1, .long a1), (3, .int a3), (4, .int a4), (5, .int z_5)]) hx hb dX6_find_145 hl (k := 7) rfl (by rw [ez_16]; rfl) (by decide) rfl (fun ls hl => ?_)
            have hz_16 : z_16.toInt = v6_6.toInt + 1 := by rw [ez_16]; exact jb_iadd2 (rfl) (by decide) (by omega)
            refine lv_goto (tgt := 19) hx hb dX6_find_148 (by decide) ?_
            exact L19 z_16 _ _ hh_6 (hfl_6) (by first | omega | (refine ⟨?_, ?_⟩ <;> (first | omega | rfl | assumption | decide | exact Or.inl rfl | exact Or.inr rfl | (simp only; omega)))) (by omega) _ (lv_sub hl [3, 4, 5, 6, 7, 0] rfl)
          · skip
            have c_15' : z_14.toInt = 0 := jb_ne_n (rfl) ((by decide)) c_15
            refine lv_aload_n hx hb dX6_find_131 rfl (lv_at hl 2 rfl) ?_
            refine j7_read hx hb hown hK (C := RX6) (T := TX6) (N := 4) rfl hly_8_1 hlk_15 (hh_6.at 1 rfl) dX6_find_132 ?_
            refine lv_iload hx hb dX6_find_135 (lv_at hl 0 rfl) ?_
            refine j7_iald hx hb hK hh_6 hB132 1 rfl (by decide) hg_xp (x := z_11.toInt) (rfl) (by omega) dX6_find_137 (fun z_17 (hz_17 : 0 ≤ z_17.toInt ∧ z_17.toInt ≤ 10) => ?_)
            refine lv_iload_n hx hb dX6_find_138 rfl (lv_at hl 4 rfl) ?_
            refine lv_icmp_ne (tgt := 145) hx hb dX6_find_139 (by decide) (fun c_18 => ?_) (fun c_18 => ?_)
            · skip
              have c_18' : z_17.toInt ≠ a3.toInt := jb_ne (rfl) (rfl) c_18
              obtain ⟨z_19, ez_19⟩ : ∃ y : Int32, y = v6_6 + 1 := ⟨_, rfl⟩
              refine lv_iinc (v := z_19) (lv' := [(6, .int z_19), (8, .int z_11), (7, .int z_9), (0, .ref r0), (1, .long a1), (3, .int a3), (4, .int a4), (5, .int z_5)]) hx hb dX6_find_145 hl (k := 7) rfl (by rw [ez_19]; rfl) (by decide) rfl (fun ls hl => ?_)
              have hz_19 : z_19.toInt = v6_6.toInt + 1 := by rw [ez_19]; exact jb_iadd2 (rfl) (by decide) (by omega)
              refine lv_goto (tgt := 19) hx hb dX6_find_148 (by decide) ?_
              exact L19 z_19 _ _ hh_6 (hfl_6) (by first | omega | (refine ⟨?_, ?_⟩ <;> (first | omega | rfl | assumption | decide | exact Or.inl rfl | exact Or.inr rfl | (simp only; omega)))) (by omega) _ (lv_sub hl [3, 4, 5, 6, 7, 0] rfl)
            · skip
              have c_18' : z_17.toInt = a3.toInt := jb_ne_n (rfl) (rfl) c_18
              refine lv_iload hx hb dX6_find_142 (lv_at hl 0 rfl) ?_
              rw [hQ]
              exact W.iret (v := z_11) hx hb hr (fun t ht hW => ⟨⟨z_11, (), rfl, by first | omega | (refine ⟨?_, ?_⟩ <;> (first | omega | rfl | assumption | decide | exact Or.inl rfl | exact Or.inr rfl | (simp only; omega))), ⟨hh_6.rt (M1 := []) [] rfl ht, by rw [ht]; exact hfl_6⟩⟩, by rw [ht]; try exact hh_6.1.1, fun q h9 hq => by rw [ht]; try exact hh_6.1.2.1 q h9 hq⟩) hh_6.1.2.2 dX6_find_144
        · skip
          have c_12' : z_11.toInt < 0 := jb_ge_n (rfl) ((by decide)) c_12
          refine lv_iload hx hb dX6_find_54 (lv_at hl 5 rfl) ?_
          refine lv_if_eq (tgt := 69) hx hb dX6_find_56 (by decide) (fun c_20 => ?_) (fun c_20 => ?_)
          · skip
            have c_20' : a4.toInt = 0 := jb_eq (rfl) ((by decide)) c_20
            refine lv_iconst (v := (-1)) hx hb dX6_find_69 (by decide) ?_
            rw [hQ]
            exact W.iret (v := (-1)) hx hb hr (fun t ht hW => ⟨⟨(-1), (), rfl, by first | omega | (refine ⟨?_, ?_⟩ <;> (first | omega | rfl | assumption | decide | exact Or.inl rfl | exact Or.inr rfl | (simp only; omega))), ⟨hh_6.rt (M1 := []) [] rfl ht, by rw [ht]; exact hfl_6⟩⟩, by rw [ht]; try exact hh_6.1.1, fun q h9 hq => by rw [ht]; try exact hh_6.1.2.1 q h9 hq⟩) hh_6.1.2.2 dX6_find_70
          · skip
            have c_20' : a4.toInt ≠ 0 := jb_eq_n (rfl) ((by decide)) c_20
            refine lv_aload_n hx hb dX6_find_59 rfl (lv_at hl 2 rfl) ?_
            obtain ⟨v_21, hv_21, hh_22⟩ := hh_6.pin (C := RX6) (T := TX6) (N := 4) hB8 rfl (by decide) hg_r0 (i := 3) (by decide) rfl
            clear hh_6
            obtain ⟨count_23, rfl, hlocount_23, hhicount_23⟩ := hv_21
            refine j7_read hx hb hown hK (C := RX6) (T := TX6) (N := 4) rfl hly_8_3 hlk_52 (hh_22.at 0 rfl) dX6_find_60 ?_
            refine lv_sipush (v := 8192) hx hb dX6_find_63 (by decide) ?_
            refine lv_icmp_lt (tgt := 71) hx hb dX6_find_66 (by decide) (fun c_24 => ?_) (fun c_24 => ?_)
            · skip
              have c_24' : count_23.toInt < 8192 := jb_lt (rfl) ((by decide)) c_24
              refine lv_aload_n hx hb dX6_find_71 rfl (lv_at hl 2 rfl) ?_
              refine j7_read hx hb hown hK (C := RX6) (T := TX6) (N := 4) rfl hly_8_0 hlk_11 (hh_22.at 1 rfl) dX6_find_72 ?_
              refine lv_aload_n hx hb dX6_find_75 rfl (lv_at hl 2 rfl) ?_
              refine j7_read hx hb hown hK (C := RX6) (T := TX6) (N := 4) rfl hly_8_3 hlk_52 (hh_22.at 0 rfl) dX6_find_76 ?_
              refine lv_lload_n hx hb dX6_find_79 rfl (lv_at hl 3 rfl) ?_
              refine j7_lastF hx hb hK hh_22 hB hB102 2 rfl (by decide) (by decide) rfl rfl rfl hg_xs (x := count_23.toInt) (rfl) (by omega) dX6_find_80 (fun H_25 locs_25 hr_25 hh_25 => ?_)
              have hfl_26 := hfl_6.put hr_25 (by simp)
              clear hr_25
              clear hh_22
              refine lv_aload_n hx hb dX6_find_81 rfl (lv_at hl 2 rfl) ?_
              refine j7_read hx hb hown hK (C := RX6) (T := TX6) (N := 4) rfl hly_8_1 hlk_15 (hh_25.at 2 rfl) dX6_find_82 ?_
              refine lv_aload_n hx hb dX6_find_85 rfl (lv_at hl 2 rfl) ?_
              refine j7_read hx hb hown hK (C := RX6) (T := TX6) (N := 4) rfl hly_8_3 hlk_52 (hh_25.at 0 rfl) dX6_find_86 ?_
              refine lv_iload_n hx hb dX6_find_89 rfl (lv_at hl 4 rfl) ?_
              refine j7_iastF hx hb hK hh_25 hB hB132 1 rfl (by decide) (by decide) rfl rfl rfl hg_xp (x := count_23.toInt) (rfl) (by omega) (by first | omega | (refine ⟨?_, ?_⟩ <;> (first | omega | rfl | assumption | decide | exact Or.inl rfl | exact Or.inr rfl | (simp only; omega)))) dX6_find_90 (fun H_27 locs_27 hr_27 hh_27 => ?_)
              have hfl_28 := hfl_26.put hr_27 (by simp)
              clear hr_27
              clear hh_25
              refine lv_aload_n hx hb dX6_find_91 rfl (lv_at hl 2 rfl) ?_
              refine lv_dup hx hb dX6_find_92 rfl ?_
              refine j7_read hx hb hown hK (C := RX6) (T := TX6) (N := 4) rfl hly_8_3 hlk_52 (hh_27.at 0 rfl) dX6_find_93 ?_
              refine lv_iconst (v := 1) hx hb dX6_find_96 (by decide) ?_
              refine lv_iadd hx hb dX6_find_97 ?_
              refine lv_topi (fun z_29 ez_29 => ?_)
              have hz_29 : z_29.toInt = count_23.toInt + 1 := by rw [ez_29]; exact jb_iadd2 (rfl) ((by decide)) (by omega)
              refine j7_putX hx hb hown hK hh_27 hB hAp hB8 (C := RX6) (T := TX6) (N := 4) rfl (by decide) hg_r0 (i := 3) (by decide) hly_8_3 rfl hlk_52 rfl (ty := .int) (v := .int z_29) (by decide +kernel) rfl rfl (⟨_, rfl, by omega, by omega⟩) rfl (L1 := [(r0, 8, 0, .ref xs), (r0, 8, 1, .ref xp), (r0, 8, 2, .ref xl)]) [1, 2, 3] rfl rfl rfl dX6_find_98 (fun H_30 locs_30 hr_30 hh_30 => ?_)
              have hfl_31 := hfl_28.put hr_30 (by simp)
              clear hr_30
              clear hh_27
              refine lv_aload_n hx hb dX6_find_101 rfl (lv_at hl 2 rfl) ?_
              refine j7_read hx hb hown hK (C := RX6) (T := TX6) (N := 4) rfl hly_8_2 hlk_19 (hh_30.at 3 rfl) dX6_find_102 ?_
              refine lv_iload hx hb dX6_find_105 (lv_at hl 1 rfl) ?_
              refine lv_aload_n hx hb dX6_find_107 rfl (lv_at hl 2 rfl) ?_
              refine j7_read hx hb hown hK (C := RX6) (T := TX6) (N := 4) rfl hly_8_3 hlk_52 (hh_30.at 0 rfl) dX6_find_108 ?_
              refine j7_iastF hx hb hK hh_30 hB hB133 1 rfl (by decide) (by decide) rfl rfl rfl hg_xl (x := z_9.toInt) (rfl) (by omega) (by first | omega | (refine ⟨?_, ?_⟩ <;> (first | omega | rfl | assumption | decide | exact Or.inl rfl | exact Or.inr rfl | (simp only; omega)))) dX6_find_111 (fun H_32 locs_32 hr_32 hh_32 => ?_)
              have hfl_33 := hfl_31.put hr_32 (by simp)
              clear hr_32
              clear hh_30
              refine lv_aload_n hx hb dX6_find_112 rfl (lv_at hl 2 rfl) ?_
              refine j7_read hx hb hown hK (C := RX6) (T := TX6) (N := 4) rfl hly_8_3 hlk_52 (hh_32.at 0 rfl) dX6_find_113 ?_
              refine lv_iconst (v := 1) hx hb dX6_find_116 (by decide) ?_
              refine lv_isub hx hb dX6_find_117 ?_
              refine lv_topi (fun z_34 ez_34 => ?_)
              have hz_34 : z_34.toInt = z_29.toInt - 1 := by rw [ez_34]; exact jb_isub2 (rfl) ((by decide)) (by omega)
              rw [hQ]
              exact W.iret (v := z_34) hx hb hr (fun t ht hW => ⟨⟨z_34, (), rfl, by first | omega | (refine ⟨?_, ?_⟩ <;> (first | omega | rfl | assumption | decide | exact Or.inl rfl | exact Or.inr rfl | (simp only; omega))), ⟨hh_32.rt (M1 := []) [] rfl ht, by rw [ht]; exact hfl_33⟩⟩, by rw [ht]; try exact hh_32.1.1, fun q h9 hq => by rw [ht]; try exact hh_32.1.2.1 q h9 hq⟩) hh_32.1.2.2 dX6_find_118
            · skip
              have c_24' : count_23.toInt ≥ 8192 := jb_lt_n (rfl) ((by decide)) c_24
              refine lv_iconst (v := (-1)) hx hb dX6_find_69 (by decide) ?_
              rw [hQ]
              exact W.iret (v := (-1)) hx hb hr (fun t ht hW => ⟨⟨(-1), (), rfl, by first | omega | (refine ⟨?_, ?_⟩ <;> (first | omega | rfl | assumption | decide | exact Or.inl rfl | exact Or.inr rfl | (simp only; omega))), ⟨hh_22.rt (M1 := []) [] rfl ht, by rw [ht]; exact hfl_6⟩⟩, by rw [ht]; try exact hh_22.1.1, fun q h9 hq => by rw [ht]; try exact hh_22.1.2.1 q h9 hq⟩) hh_22.1.2.2 dX6_find_70
  exact L19 (16384 - (0 : Int32).toInt : Int).toNat.succ 0 _ _ hh (hfl) (by first | omega | (refine ⟨?_, ?_⟩ <;> (first | omega | rfl | assumption | decide | exact Or.inl rfl | exact Or.inr rfl | (simp only; omega)))) (by omega) _ (lv_sub hl [2, 3, 4, 5, 1, 0] rfl)
end
section
def EX6_numberOfBa9 : List (Nat × Nat) := [(8, 3), (102, 0), (132, 0), (133, 0)]
set_option maxHeartbeats 4000000 in
set_option maxRecDepth 20000 in
theorem uX6_numberOfBa9 (l : Launch) (dC : Nat → ClassId) (dI : Nat → Nat → Nat) (ca : Nat → ClassId) (base : Nat) (B : jF) (hB : jBok B) (hAp : jAp (dC, dI)) (hB8 : ∀ n G a H, B 8 n G a H ↔ jOb (dC, dI) 8 4 (F8 n G) a H) (hB102 : ∀ n G a H, B 102 n G a H ↔ jAl (dC, dI) (ca 2) n a H) (hB132 : ∀ n G a H, B 132 n G a H ↔ jAr (dC, dI) (ca 1) (fun j z => 0 ≤ z.toInt ∧ z.toInt ≤ 10) n a H) (hB133 : ∀ n G a H, B 133 n G a H ↔ jAr (dC, dI) (ca 1) (fun j z => 0 ≤ z.toInt ∧ z.toInt ≤ 8192) n a H) (hB175 : ∀ n G a H, B 175 n G a H ↔ jAr (dC, dI) (ca 1) (fun j z => True) n a H) (G0 : jT) (H0 : Heap) (r0 : Nat) (r1 : Nat) (a2 : Int32) (a3 : Int32) (a4 : Int32) (n1 : Nat) (xs : Nat) (xp : Nat) (xl : Nat) : Met l yX6_numberOf (jw yX6_numberOf cX6_numberOf 10 (some .int)) ({ frames := 1, cells := 0, slots := 0, locals := 28 }) (va_Pc [.ref r0, .ref r1, .int a2, .int a3, .int a4] (fun U => U.heap = H0 ∧ jX B base G0 [] H0 ∧ jG dC dI ca base U ∧ G0 r0 = some (8, 0) ∧ G0 r1 = some (175, n1) ∧ G0 xs = some (102, 8192) ∧ G0 xp = some (132, 8192) ∧ G0 xl = some (133, 16384) ∧ jP (dC, dI) G0 H0 [(r0, 8, 0, .ref xs), (r0, 8, 1, .ref xp), (r0, 8, 2, .ref xl)] ∧ n1 < 2147483648)) (va_Qi (S := Unit) (fun r u => (-1 ≤ r.toInt ∧ r.toInt ≤ 8191)) (fun u t => (jRt (dC, dI) B base G0 EX6_numberOfBa9 H0 [] t.heap) ∧ jKl [r0, xs, xp, xl] H0 t.heap) (jA base)) 0 0 (jA base) := by
  refine Met.ofW (cc := cX6_numberOf) (maxL := 10) (ret := (some .int)) (by decide) rfl ?_
  intro p e s m args below meth c s₁ Bd hml hv
  obtain ⟨rfl, hH0, hX, hG, hg_r0, hg_r1, hg_xs, hg_xp, hg_xl, hP0, hp0⟩ := hv
  have hK := hG.1
  have hx := Bd.exec
  have hb := Bd.bytes
  have hr := Bd.returns
  have hts := atoms_spec (ws := (jw yX6_numberOf cX6_numberOf 10 (some .int))) Bd.pre
  have htw : ∀ w ∈ jWl, w.before _ s = true := fun w h => hts w (List.mem_cons_of_mem _ h)
  have hown : s.vm.findClass RX6 = some m.cls := findClass_of_methodNamed Bd.named
  have hlocks := Bd.notSynchronized
  obtain ⟨Q, hQ⟩ : ∃ Q, Q = MQ below (va_Qi (S := Unit) (fun r u => (-1 ≤ r.toInt ∧ r.toInt ≤ 8191)) (fun u t => (jRt (dC, dI) B base G0 EX6_numberOfBa9 H0 [] t.heap) ∧ jKl [r0, xs, xp, xl] H0 t.heap) (jA base)) ([.ref r0, .ref r1, .int a2, .int a3, .int a4] : List Value).toArray s 0 0 (jA base) := ⟨_, rfl⟩
  rw [← hQ]
  have hl := lv_entry ([.ref r0, .ref r1, .int a2, .int a3, .int a4]) (n := 10) (Nat.le_of_ble_eq_true rfl)
  rw [lg_entry_eq]
  generalize (lg_sl ([.ref r0, .ref r1, .int a2, .int a3, .int a4]) ++ List.replicate (10 - (lg_sl ([.ref r0, .ref r1, .int a2, .int a3, .int a4])).length) Slot.unset).toArray = ls at hl ⊢
  have hl : lv_has ls 10 [(0, .ref r0), (1, .ref r1), (2, .int a2), (3, .int a3), (4, .int a4)] := hl
  generalize hR : (headSpec (jw yX6_numberOf cX6_numberOf 10 (some .int)) ({ frames := 1, cells := 0, slots := 0, locals := 28 })).room = R
  subst hH0
  have hh : jSt (dC, dI) B base G0 G0 EX6_numberOfBa9 s.heap 0 0 [(r0, 8, 0, .ref xs), (r0, 8, 1, .ref xp), (r0, 8, 2, .ref xl)] [] [] s.heap [] := jSt.start hX hP0 jMc.nil jIs.nil
  clear hX hP0
  have hkm1 : ((-1) : Int32).toInt = (-1) := by decide
  have hk0 : (0 : Int32).toInt = 0 := by decide
  have hk1 : (1 : Int32).toInt = 1 := by decide
  have hk6 : (6 : Int32).toInt = 6 := by decide
  have hk10 : (10 : Int32).toInt = 10 := by decide
  have hk39 : (39 : Int32).toInt = 39 := by decide
  have hrg_a2 := jb_rng a2
  have hrg_a3 := jb_rng a3
  have hrg_a4 := jb_rng a4
  have hfl : jKl [r0, xs, xp, xl] s.heap s.heap := jKl.rf
  refine lv_iload_n hx hb dX6_numberOf_0 rfl (lv_at hl 2 rfl) ?_
  refine lv_if_lt (tgt := 32) hx hb dX6_numberOf_1 (by decide) (fun c_1 => ?_) (fun c_1 => ?_)
  · skip
    have c_1' : a2.toInt < 0 := jb_lt (rfl) ((by decide)) c_1
    refine lv_iconst (v := (-1)) hx hb dX6_numberOf_32 (by decide) ?_
    rw [hQ]
    exact W.iret (v := (-1)) hx hb hr (fun t ht hW => ⟨⟨(-1), (), rfl, by first | omega | (refine ⟨?_, ?_⟩ <;> (first | omega | rfl | assumption | decide | exact Or.inl rfl | exact Or.inr rfl | (simp only; omega))), ⟨hh.rt (M1 := []) [] rfl ht, by rw [ht]; exact hfl⟩⟩, by rw [ht]; try exact hh.1.1, fun q h9 hq => by rw [ht]; try exact hh.1.2.1 q h9 hq⟩) hh.1.2.2 dX6_numberOf_33
  · skip
    have c_1' : a2.toInt ≥ 0 := jb_lt_n (rfl) ((by decide)) c_1
    refine lv_iload_n hx hb dX6_numberOf_4 rfl (lv_at hl 3 rfl) ?_
    refine lv_aload_n hx hb dX6_numberOf_5 rfl (lv_at hl 1 rfl) ?_
    refine j7_len hx hb hK hh hB175 1 rfl (by decide) hg_r1 (by omega) dX6_numberOf_6 (fun z_2 hz_2 => ?_)
    refine lv_icmp_gt (tgt := 32) hx hb dX6_numberOf_7 (by decide) (fun c_3 => ?_) (fun c_3 => ?_)
    · skip
      have c_3' : a3.toInt > z_2.toInt := jb_gt (rfl) (rfl) c_3
      refine lv_iconst (v := (-1)) hx hb dX6_numberOf_32 (by decide) ?_
      rw [hQ]
      exact W.iret (v := (-1)) hx hb hr (fun t ht hW => ⟨⟨(-1), (), rfl, by first | omega | (refine ⟨?_, ?_⟩ <;> (first | omega | rfl | assumption | decide | exact Or.inl rfl | exact Or.inr rfl | (simp only; omega))), ⟨hh.rt (M1 := []) [] rfl ht, by rw [ht]; exact hfl⟩⟩, by rw [ht]; try exact hh.1.1, fun q h9 hq => by rw [ht]; try exact hh.1.2.1 q h9 hq⟩) hh.1.2.2 dX6_numberOf_33
    · skip
      have c_3' : a3.toInt ≤ z_2.toInt := jb_gt_n (rfl) (rfl) c_3
      refine lv_iload_n hx hb dX6_numberOf_10 rfl (lv_at hl 2 rfl) ?_
      refine lv_iload_n hx hb dX6_numberOf_11 rfl (lv_at hl 3 rfl) ?_
      refine lv_icmp_ge (tgt := 32) hx hb dX6_numberOf_12 (by decide) (fun c_4 => ?_) (fun c_4 => ?_)
      · skip
        have c_4' : a2.toInt ≥ a3.toInt := jb_ge (rfl) (rfl) c_4
        refine lv_iconst (v := (-1)) hx hb dX6_numberOf_32 (by decide) ?_
        rw [hQ]
        exact W.iret (v := (-1)) hx hb hr (fun t ht hW => ⟨⟨(-1), (), rfl, by first | omega | (refine ⟨?_, ?_⟩ <;> (first | omega | rfl | assumption | decide | exact Or.inl rfl | exact Or.inr rfl | (simp only; omega))), ⟨hh.rt (M1 := []) [] rfl ht, by rw [ht]; exact hfl⟩⟩, by rw [ht]; try exact hh.1.1, fun q h9 hq => by rw [ht]; try exact hh.1.2.1 q h9 hq⟩) hh.1.2.2 dX6_numberOf_33
      · skip
        have c_4' : a2.toInt < a3.toInt := jb_ge_n (rfl) (rfl) c_4
        refine lv_iload_n hx hb dX6_numberOf_15 rfl (lv_at hl 3 rfl) ?_
        refine lv_iload_n hx hb dX6_numberOf_16 rfl (lv_at hl 2 rfl) ?_
        refine lv_isub hx hb dX6_numberOf_17 ?_
        refine lv_topi (fun z_5 ez_5 => ?_)
        have hz_5 : z_5.toInt = a3.toInt - a2.toInt := by rw [ez_5]; exact jb_isub2 (rfl) (rfl) (by omega)
        refine lv_bipush (v := 10) hx hb dX6_numberOf_18 (by decide) ?_
        refine lv_icmp_gt (tgt := 32) hx hb dX6_numberOf_20 (by decide) (fun c_6 => ?_) (fun c_6 => ?_)
        · skip
          have c_6' : z_5.toInt > 10 := jb_gt (rfl) ((by decide)) c_6
          refine lv_iconst (v := (-1)) hx hb dX6_numberOf_32 (by decide) ?_
          rw [hQ]
          exact W.iret (v := (-1)) hx hb hr (fun t ht hW => ⟨⟨(-1), (), rfl, by first | omega | (refine ⟨?_, ?_⟩ <;> (first | omega | rfl | assumption | decide | exact Or.inl rfl | exact Or.inr rfl | (simp only; omega))), ⟨hh.rt (M1 := []) [] rfl ht, by rw [ht]; exact hfl⟩⟩, by rw [ht]; try exact hh.1.1, fun q h9 hq => by rw [ht]; try exact hh.1.2.1 q h9 hq⟩) hh.1.2.2 dX6_numberOf_33
        · skip
          have c_6' : z_5.toInt ≤ 10 := jb_gt_n (rfl) ((by decide)) c_6
          refine lv_aload_n hx hb dX6_numberOf_23 rfl (lv_at hl 1 rfl) ?_
          refine lv_iload_n hx hb dX6_numberOf_24 rfl (lv_at hl 2 rfl) ?_
          refine j7_iald hx hb hK hh hB175 1 rfl (by decide) hg_r1 (x := a2.toInt) (rfl) (by omega) dX6_numberOf_25 (fun z_7 (hz_7 : True) => ?_)
          refine vp_callSi (va_Run.run (va_runSN (As := [.int z_7]) (rest := []) ⟨hx, hb, hml, hown, hts⟩ (wX11_isLetter l dC dI ca base s.heap z_7) ⟨va_cnB 1 hts (jgW (jWr_7 _ (List.mem_of_getElem? (i := 18) rfl))) rfl rfl rfl (hG.2.2.1 RX6 38 yX11_isLetter "ProofServer" (List.mem_of_getElem? (i := 217) (by decide +kernel))) (htw (.initialized RX11) (jWr_1 _ (List.mem_of_getElem? (i := 2) rfl))) (by decide +kernel) ⟨by rw [← hR]; exact Nat.le_of_ble_eq_true rfl, by rw [← hR]; exact Nat.le_of_ble_eq_true rfl⟩, htw (.static yX11_isLetter) (jWr_7 _ (List.mem_of_getElem? (i := 17) rfl)), trivial⟩ ⟨fun a U g mk q => by obtain ⟨q0, q1, qK, q9⟩ := q; exact ⟨q0, q1, jG.calling g mk a qK, q9⟩, fun U hU hW => ⟨rfl, hU, hG.step hW hU hh.1, by first | trivial | omega | (constructor <;> omega)⟩⟩ rfl rfl hl.1 rfl (lv_room (Nat.le_of_ble_eq_true rfl)) dX6_numberOf_26 ⟨Nat.zero_le _, Nat.zero_le _⟩)) (fun r_8 hr_8 => ?_)
          have hr_8' : r_8.toInt = 0 ∨ r_8.toInt = 1 := jb_01 hr_8
          refine lv_if_ne (tgt := 34) hx hb dX6_numberOf_29 (by decide) (fun c_9 => ?_) (fun c_9 => ?_)
          · skip
            have c_9' : r_8.toInt ≠ 0 := jb_ne (rfl) ((by decide)) c_9
            refine lv_iload_n hx hb dX6_numberOf_34 rfl (lv_at hl 3 rfl) ?_
            refine lv_istore (lv' := [(5, .int a3), (0, .ref r0), (1, .ref r1), (2, .int a2), (3, .int a3), (4, .int a4)]) hx hb dX6_numberOf_35 hl (by decide) rfl (fun ls hl => ?_)
            have L37 : ∀ (N : Nat) (v5_10 : Int32) (H_10 : Heap) (locs_10 : List Loc), jSt (dC, dI) B base G0 G0 EX6_numberOfBa9 s.heap 0 0 [(r0, 8, 0, .ref xs), (r0, 8, 1, .ref xp), (r0, 8, 2, .ref xl)] [] [] H_10 locs_10 → jKl [r0, xs, xp, xl] s.heap H_10 → (a2.toInt ≤ v5_10.toInt ∧ v5_10.toInt ≤ a3.toInt) → (v5_10.toInt - a2.toInt : Int) < N → ∀ ls : Array Slot, lv_has ls 10 [(0, .ref r0), (1, .ref r1), (2, .int a2), (3, .int a3), (4, .int a4), (5, .int v5_10)] → W p l e R s m ([.ref r0, .ref r1, .int a2, .int a3, .int a4] : List Value).toArray below meth c H_10 locs_10 0 0 Q (F0 m 37 ls []) := by
              intro N
              induction N with
              | zero => intro v5_10 H_10 locs_10 hh_10 hfl_10 hi_10 hm; exact absurd hm (by omega)
              | succ N L37 =>
                intro v5_10 H_10 locs_10 hh_10 hfl_10 hi_10 hm_10 ls hl
                obtain ⟨hi_10_0, hi_10_1⟩ := hi_10
                refine lv_iload hx hb dX6_numberOf_37 (lv_at hl 5 rfl) ?_
                refine lv_iload_n hx hb dX6_numberOf_39 rfl (lv_at hl 2 rfl) ?_
                refine lv_icmp_le (tgt := 60) hx hb dX6_numberOf_40 (by decide) (fun c_11 => ?_) (fun c_11 => ?_)
                · skip
                  have c_11' : v5_10.toInt ≤ a2.toInt := jb_le (rfl) (rfl) c_11
                  refine lv_lconst (v := 1) hx hb dX6_numberOf_60 (by decide) ?_
                  refine lv_lstore (lv' := [(6, .long 1), (0, .ref r0), (1, .ref r1), (2, .int a2), (3, .int a3), (4, .int a4), (5, .int v5_10)]) hx hb dX6_numberOf_61 hl (by decide) rfl (fun ls hl => ?_)
                  refine lv_iload hx hb dX6_numberOf_63 (lv_at hl 6 rfl) ?_
                  refine lv_iconst (v := 1) hx hb dX6_numberOf_65 (by decide) ?_
                  refine lv_isub hx hb dX6_numberOf_66 ?_
                  refine lv_topi (fun z_12 ez_12 => ?_)
                  have hz_12 : z_12.toInt = v5_10.toInt - 1 := by rw [ez_12]; exact jb_isub2 (rfl) ((by decide)) (by omega)
                  refine lv_istore (lv' := [(8, .int z_12), (6, .long 1), (0, .ref r0), (1, .ref r1), (2, .int a2), (3, .int a3), (4, .int a4), (5, .int v5_10)]) hx hb dX6_numberOf_67 hl (by decide) rfl (fun ls hl => ?_)
                  have L69 : ∀ (N : Nat) (v6_13 : Int64) (v8_13 : Int32) (H_13 : Heap) (locs_13 : List Loc), jSt (dC, dI) B base G0 G0 EX6_numberOfBa9 s.heap 0 0 [(r0, 8, 0, .ref xs), (r0, 8, 1, .ref xp), (r0, 8, 2, .ref xl)] [] [] H_13 locs_13 → jKl [r0, xs, xp, xl] s.heap H_13 → (a2.toInt - 1 ≤ v8_13.toInt ∧ v8_13.toInt < a3.toInt) → (v8_13.toInt + 1 - a2.toInt : Int) < N → ∀ ls : Array Slot, lv_has ls 10 [(0, .ref r0), (1, .ref r1), (2, .int a2), (3, .int a3), (4, .int a4), (5, .int v5_10), (6, .long v6_13), (8, .int v8_13)] → W p l e R s m ([.ref r0, .ref r1, .int a2, .int a3, .int a4] : List Value).toArray below meth c H_13 locs_13 0 0 Q (F0 m 69 ls []) := by
                    intro N
                    induction N with
                    | zero => intro v6_13 v8_13 H_13 locs_13 hh_13 hfl_13 hi_13 hm; exact absurd hm (by omega)
                    | succ N L69 =>
                      intro v6_13 v8_13 H_13 locs_13 hh_13 hfl_13 hi_13 hm_13 ls hl
                      obtain ⟨hi_13_0, hi_13_1⟩ := hi_13
                      refine lv_iload hx hb dX6_numberOf_69 (lv_at hl 7 rfl) ?_
                      refine lv_iload_n hx hb dX6_numberOf_71 rfl (lv_at hl 2 rfl) ?_
                      refine lv_icmp_lt (tgt := 108) hx hb dX6_numberOf_72 (by decide) (fun c_14 => ?_) (fun c_14 => ?_)
                      · skip
                        have c_14' : v8_13.toInt < a2.toInt := jb_lt (rfl) (rfl) c_14
                        refine lv_aload_n hx hb dX6_numberOf_108 rfl (lv_at hl 0 rfl) ?_
                        refine lv_lload hx hb dX6_numberOf_109 (lv_at hl 6 rfl) ?_
                        refine lv_iload_n hx hb dX6_numberOf_111 rfl (lv_at hl 3 rfl) ?_
                        refine lv_iload hx hb dX6_numberOf_112 (lv_at hl 5 rfl) ?_
                        refine lv_isub hx hb dX6_numberOf_114 ?_
                        refine lv_topi (fun z_15 ez_15 => ?_)
                        have hz_15 : z_15.toInt = a3.toInt - v5_10.toInt := by rw [ez_15]; exact jb_isub2 (rfl) (rfl) (by omega)
                        refine lv_iload hx hb dX6_numberOf_115 (lv_at hl 4 rfl) ?_
                        refine va_calli (A0 := jA base) (H0 := s.heap) (va_runV (As := [.long v6_13, .int z_15, .int a4]) (rest := []) ⟨hx, hb, hml, hown, hts⟩ (uX6_findB l dC dI ca base B hB hAp hB8 hB102 hB132 hB133 G0 H_13 r0 v6_13 z_15 a4 xs xp xl) (cwV 3 hts (jgV (jWr_7 _ (List.mem_of_getElem? (i := 22) rfl)) (jWr_7 _ (List.mem_of_getElem? (i := 23) rfl)) (jWr_8 _ (List.mem_of_getElem? (i := 0) rfl)) (jWr_4 _ (List.mem_of_getElem? (i := 10) rfl)) (jWr_8 _ (List.mem_of_getElem? (i := 1) rfl))) rfl rfl rfl (by decide +kernel) ⟨by rw [← hR]; exact Nat.le_of_ble_eq_true rfl, by rw [← hR]; exact Nat.le_of_ble_eq_true rfl⟩) ⟨fun a U g mk q => by obtain ⟨q0, q1, q2, qK, q10, q11, q12, q13, q14, q15⟩ := q; exact ⟨q0, q1, q2, jG.calling g mk a qK, q10, q11, q12, q13, q14, q15⟩, hh_13.recv (C := RX6) (T := TX6) (N := 4) hB8 rfl (by decide) hg_r0 hK, fun U hU hW => ⟨rfl, hU, hh_13.2.1, hG.step hW hU hh_13.1, hg_r0, hg_xs, hg_xp, hg_xl, (hh_13.2.2.1.sub (L1 := [(r0, 8, 0, .ref xs), (r0, 8, 1, .ref xp), (r0, 8, 2, .ref xl)]) [0, 1, 2] rfl), by first | omega | (refine ⟨?_, ?_⟩ <;> (first | omega | rfl | assumption | decide | exact Or.inl rfl | exact Or.inr rfl | (simp only; omega)))⟩⟩ rfl rfl hl.1 rfl (lv_room (Nat.le_of_ble_eq_true rfl)) dX6_numberOf_117 ⟨Nat.zero_le _, Nat.zero_le _⟩) hh_13.1 (fun q _ h => h) (fun q h => h) (fun r_17 u_16 t_16 H_16 locs_16 ht_16 hvm_16 hr_17 hb_16 hz_16 hk_16 hS_16 => ?_)
                        rw [ht_16] at hb_16
                        obtain ⟨hb_16, hbF_16⟩ := hb_16
                        obtain ⟨hb_161, hb_162, hb_163, hb_164, hb_165⟩ := hb_16
                        have hh_16 : jSt (dC, dI) B base G0 G0 EX6_numberOfBa9 s.heap 0 0 [(r0, 8, 0, .ref xs), (r0, 8, 1, .ref xp), (r0, 8, 2, .ref xl)] [] [] H_16 locs_16 := ((hh_13.call hb_161 hb_162 hb_163 hb_164 hS_16 rfl (L1 := [(r0, 8, 0, .ref xs), (r0, 8, 1, .ref xp), (r0, 8, 2, .ref xl)]) [0, 1, 2] rfl rfl (M1 := []) [] rfl rfl (I1 := []) [] rfl rfl).more hb_165)
                        clear hh_13 ht_16 hvm_16 hz_16 hk_16 hS_16 hb_161 hb_162 hb_163 hb_164 hb_165
                        have hfl_18 := hfl_13.tr hbF_16 (by first | exact fun q h => h | (intro q h9; simp at h9 ⊢; exact h9) | (intro q h9; simp at h9))
                        obtain ⟨hr_17_0, hr_17_1⟩ := hr_17
                        rw [hQ]
                        exact W.iret (v := r_17) hx hb hr (fun t ht hW => ⟨⟨r_17, (), rfl, by first | omega | (refine ⟨?_, ?_⟩ <;> (first | omega | rfl | assumption | decide | exact Or.inl rfl | exact Or.inr rfl | (simp only; omega))), ⟨hh_16.rt (M1 := []) [] rfl ht, by rw [ht]; exact hfl_18⟩⟩, by rw [ht]; try exact hh_16.1.1, fun q h9 hq => by rw [ht]; try exact hh_16.1.2.1 q h9 hq⟩) hh_16.1.2.2 dX6_numberOf_120
                      · skip
                        have c_14' : v8_13.toInt ≥ a2.toInt := jb_lt_n (rfl) (rfl) c_14
                        refine lv_aload_n hx hb dX6_numberOf_75 rfl (lv_at hl 1 rfl) ?_
                        refine lv_iload hx hb dX6_numberOf_76 (lv_at hl 7 rfl) ?_
                        refine j7_iald hx hb hK hh_13 hB175 1 rfl (by decide) hg_r1 (x := v8_13.toInt) (rfl) (by omega) dX6_numberOf_78 (fun z_19 (hz_19 : True) => ?_)
                        refine vp_callSi (W.runS (As := [.int z_19]) (rest := []) ⟨hx, hb, hml, hown, hts⟩ (wX6_signOf l dC dI ca base H_13 z_19) (va_cwS 1 hts (jgS (jWr_7 _ (List.mem_of_getElem? (i := 19) rfl)) (jWr_7 _ (List.mem_of_getElem? (i := 20) rfl)) (jWr_4 _ (List.mem_of_getElem? (i := 10) rfl)) (jWr_7 _ (List.mem_of_getElem? (i := 21) rfl))) rfl rfl rfl (by decide +kernel) ⟨by rw [← hR]; exact Nat.le_of_ble_eq_true rfl, by rw [← hR]; exact Nat.le_of_ble_eq_true rfl⟩) ⟨fun a U g mk q => by obtain ⟨q0, q1, qK, q9⟩ := q; exact ⟨q0, q1, jG.calling g mk a qK, q9⟩, fun U hU hW => ⟨rfl, hU, hG.step hW hU hh_13.1, by first | trivial | omega | (constructor <;> omega)⟩⟩ rfl rfl hl.1 rfl (lv_room (Nat.le_of_ble_eq_true rfl)) dX6_numberOf_79 ⟨Nat.zero_le _, Nat.zero_le _⟩) (fun r_20 hr_20 => ?_)
                        refine lv_istore (lv' := [(9, .int r_20), (0, .ref r0), (1, .ref r1), (2, .int a2), (3, .int a3), (4, .int a4), (5, .int v5_10), (6, .long v6_13), (8, .int v8_13)]) hx hb dX6_numberOf_82 hl (by decide) rfl (fun ls hl => ?_)
                        refine lv_iload hx hb dX6_numberOf_84 (lv_at hl 0 rfl) ?_
                        refine lv_if_ge (tgt := 91) hx hb dX6_numberOf_86 (by decide) (fun c_21 => ?_) (fun c_21 => ?_)
                        · skip
                          have c_21' : r_20.toInt ≥ 0 := jb_ge (rfl) ((by decide)) c_21
                          refine lv_lload hx hb dX6_numberOf_91 (lv_at hl 7 rfl) ?_
                          refine lv_bipush (v := 6) hx hb dX6_numberOf_93 (by decide) ?_
                          refine lv_lshl hx hb dX6_numberOf_95 rfl ?_
                          refine lv_topl (fun z_22 ez_22 => ?_)
                          refine lv_iload hx hb dX6_numberOf_96 (lv_at hl 0 rfl) ?_
                          refine lv_i2l hx hb dX6_numberOf_98 rfl ?_
                          refine lv_topl (fun z_23 ez_23 => ?_)
                          refine lv_lor hx hb dX6_numberOf_99 ?_
                          refine lv_topl (fun z_24 ez_24 => ?_)
                          refine lv_lstore (lv' := [(6, .long z_24), (9, .int r_20), (0, .ref r0), (1, .ref r1), (2, .int a2), (3, .int a3), (4, .int a4), (5, .int v5_10), (8, .int v8_13)]) hx hb dX6_numberOf_100 hl (by decide) rfl (fun ls hl => ?_)
                          obtain ⟨z_25, ez_25⟩ : ∃ y : Int32, y = v8_13 + (-1) := ⟨_, rfl⟩
                          refine lv_iinc (v := z_25) (lv' := [(8, .int z_25), (6, .long z_24), (9, .int r_20), (0, .ref r0), (1, .ref r1), (2, .int a2), (3, .int a3), (4, .int a4), (5, .int v5_10)]) hx hb dX6_numberOf_102 hl (k := 8) rfl (by rw [ez_25]; rfl) (by decide) rfl (fun ls hl => ?_)
                          have hz_25 : z_25.toInt = v8_13.toInt + (-1) := by rw [ez_25]; exact jb_iadd2 (rfl) (by decide) (by omega)
                          refine lv_goto (tgt := 69) hx hb dX6_numberOf_105 (by decide) ?_
                          exact L69 z_24 z_25 _ _ hh_13 (hfl_13) (by first | omega | (refine ⟨?_, ?_⟩ <;> (first | omega | rfl | assumption | decide | exact Or.inl rfl | exact Or.inr rfl | (simp only; omega)))) (by omega) _ (lv_sub hl [3, 4, 5, 6, 7, 8, 1, 0] rfl)
                        · skip
                          have c_21' : r_20.toInt < 0 := jb_ge_n (rfl) ((by decide)) c_21
                          refine lv_iconst (v := (-1)) hx hb dX6_numberOf_89 (by decide) ?_
                          rw [hQ]
                          exact W.iret (v := (-1)) hx hb hr (fun t ht hW => ⟨⟨(-1), (), rfl, by first | omega | (refine ⟨?_, ?_⟩ <;> (first | omega | rfl | assumption | decide | exact Or.inl rfl | exact Or.inr rfl | (simp only; omega))), ⟨hh_13.rt (M1 := []) [] rfl ht, by rw [ht]; exact hfl_13⟩⟩, by rw [ht]; try exact hh_13.1.1, fun q h9 hq => by rw [ht]; try exact hh_13.1.2.1 q h9 hq⟩) hh_13.1.2.2 dX6_numberOf_90
                  exact L69 ((z_12 : Int32).toInt + 1 - a2.toInt : Int).toNat.succ 1 z_12 _ _ hh_10 (hfl_10) (by first | omega | (refine ⟨?_, ?_⟩ <;> (first | omega | rfl | assumption | decide | exact Or.inl rfl | exact Or.inr rfl | (simp only; omega)))) (by omega) _ (lv_sub hl [2, 3, 4, 5, 6, 7, 1, 0] rfl)
                · skip
                  have c_11' : v5_10.toInt > a2.toInt := jb_le_n (rfl) (rfl) c_11
                  refine lv_aload_n hx hb dX6_numberOf_43 rfl (lv_at hl 1 rfl) ?_
                  refine lv_iload hx hb dX6_numberOf_44 (lv_at hl 5 rfl) ?_
                  refine lv_iconst (v := 1) hx hb dX6_numberOf_46 (by decide) ?_
                  refine lv_isub hx hb dX6_numberOf_47 ?_
                  refine lv_topi (fun z_26 ez_26 => ?_)
                  have hz_26 : z_26.toInt = v5_10.toInt - 1 := by rw [ez_26]; exact jb_isub2 (rfl) ((by decide)) (by omega)
                  refine j7_iald hx hb hK hh_10 hB175 1 rfl (by decide) hg_r1 (x := z_26.toInt) (rfl) (by omega) dX6_numberOf_48 (fun z_27 (hz_27 : True) => ?_)
                  refine lv_bipush (v := 39) hx hb dX6_numberOf_49 (by decide) ?_
                  refine lv_icmp_ne (tgt := 60) hx hb dX6_numberOf_51 (by decide) (fun c_28 => ?_) (fun c_28 => ?_)
                  · skip
                    have c_28' : z_27.toInt ≠ 39 := jb_ne (rfl) ((by decide)) c_28
                    refine lv_lconst (v := 1) hx hb dX6_numberOf_60 (by decide) ?_
                    refine lv_lstore (lv' := [(6, .long 1), (0, .ref r0), (1, .ref r1), (2, .int a2), (3, .int a3), (4, .int a4), (5, .int v5_10)]) hx hb dX6_numberOf_61 hl (by decide) rfl (fun ls hl => ?_)
                    refine lv_iload hx hb dX6_numberOf_63 (lv_at hl 6 rfl) ?_
                    refine lv_iconst (v := 1) hx hb dX6_numberOf_65 (by decide) ?_
                    refine lv_isub hx hb dX6_numberOf_66 ?_
                    refine lv_topi (fun z_29 ez_29 => ?_)
                    have hz_29 : z_29.toInt = v5_10.toInt - 1 := by rw [ez_29]; exact jb_isub2 (rfl) ((by decide)) (by omega)
                    refine lv_istore (lv' := [(8, .int z_29), (6, .long 1), (0, .ref r0), (1, .ref r1), (2, .int a2), (3, .int a3), (4, .int a4), (5, .int v5_10)]) hx hb dX6_numberOf_67 hl (by decide) rfl (fun ls hl => ?_)
                    have L69 : ∀ (N : Nat) (v6_30 : Int64) (v8_30 : Int32) (H_30 : Heap) (locs_30 : List Loc), jSt (dC, dI) B base G0 G0 EX6_numberOfBa9 s.heap 0 0 [(r0, 8, 0, .ref xs), (r0, 8, 1, .ref xp), (r0, 8, 2, .ref xl)] [] [] H_30 locs_30 → jKl [r0, xs, xp, xl] s.heap H_30 → (a2.toInt - 1 ≤ v8_30.toInt ∧ v8_30.toInt < a3.toInt) → (v8_30.toInt + 1 - a2.toInt : Int) < N → ∀ ls : Array Slot, lv_has ls 10 [(0, .ref r0), (1, .ref r1), (2, .int a2), (3, .int a3), (4, .int a4), (5, .int v5_10), (6, .long v6_30), (8, .int v8_30)] → W p l e R s m ([.ref r0, .ref r1, .int a2, .int a3, .int a4] : List Value).toArray below meth c H_30 locs_30 0 0 Q (F0 m 69 ls []) := by
                      intro N
                      induction N with
                      | zero => intro v6_30 v8_30 H_30 locs_30 hh_30 hfl_30 hi_30 hm; exact absurd hm (by omega)
                      | succ N L69 =>
                        intro v6_30 v8_30 H_30 locs_30 hh_30 hfl_30 hi_30 hm_30 ls hl
                        obtain ⟨hi_30_0, hi_30_1⟩ := hi_30
                        refine lv_iload hx hb dX6_numberOf_69 (lv_at hl 7 rfl) ?_
                        refine lv_iload_n hx hb dX6_numberOf_71 rfl (lv_at hl 2 rfl) ?_
                        refine lv_icmp_lt (tgt := 108) hx hb dX6_numberOf_72 (by decide) (fun c_31 => ?_) (fun c_31 => ?_)
                        · skip
                          have c_31' : v8_30.toInt < a2.toInt := jb_lt (rfl) (rfl) c_31
                          refine lv_aload_n hx hb dX6_numberOf_108 rfl (lv_at hl 0 rfl) ?_
                          refine lv_lload hx hb dX6_numberOf_109 (lv_at hl 6 rfl) ?_
                          refine lv_iload_n hx hb dX6_numberOf_111 rfl (lv_at hl 3 rfl) ?_
                          refine lv_iload hx hb dX6_numberOf_112 (lv_at hl 5 rfl) ?_
                          refine lv_isub hx hb dX6_numberOf_114 ?_
                          refine lv_topi (fun z_32 ez_32 => ?_)
                          have hz_32 : z_32.toInt = a3.toInt - v5_10.toInt := by rw [ez_32]; exact jb_isub2 (rfl) (rfl) (by omega)
                          refine lv_iload hx hb dX6_numberOf_115 (lv_at hl 4 rfl) ?_
                          refine va_calli (A0 := jA base) (H0 := s.heap) (va_runV (As := [.long v6_30, .int z_32, .int a4]) (rest := []) ⟨hx, hb, hml, hown, hts⟩ (uX6_findB l dC dI ca base B hB hAp hB8 hB102 hB132 hB133 G0 H_30 r0 v6_30 z_32 a4 xs xp xl) (cwV 3 hts (jgV (jWr_7 _ (List.mem_of_getElem? (i := 22) rfl)) (jWr_7 _ (List.mem_of_getElem? (i := 23) rfl)) (jWr_8 _ (List.mem_of_getElem? (i := 0) rfl)) (jWr_4 _ (List.mem_of_getElem? (i := 10) rfl)) (jWr_8 _ (List.mem_of_getElem? (i := 1) rfl))) rfl rfl rfl (by decide +kernel) ⟨by rw [← hR]; exact Nat.le_of_ble_eq_true rfl, by rw [← hR]; exact Nat.le_of_ble_eq_true rfl⟩) ⟨fun a U g mk q => by obtain ⟨q0, q1, q2, qK, q10, q11, q12, q13, q14, q15⟩ := q; exact ⟨q0, q1, q2, jG.calling g mk a qK, q10, q11, q12, q13, q14, q15⟩, hh_30.recv (C := RX6) (T := TX6) (N := 4) hB8 rfl (by decide) hg_r0 hK, fun U hU hW => ⟨rfl, hU, hh_30.2.1, hG.step hW hU hh_30.1, hg_r0, hg_xs, hg_xp, hg_xl, (hh_30.2.2.1.sub (L1 := [(r0, 8, 0, .ref xs), (r0, 8, 1, .ref xp), (r0, 8, 2, .ref xl)]) [0, 1, 2] rfl), by first | omega | (refine ⟨?_, ?_⟩ <;> (first | omega | rfl | assumption | decide | exact Or.inl rfl | exact Or.inr rfl | (simp only; omega)))⟩⟩ rfl rfl hl.1 rfl (lv_room (Nat.le_of_ble_eq_true rfl)) dX6_numberOf_117 ⟨Nat.zero_le _, Nat.zero_le _⟩) hh_30.1 (fun q _ h => h) (fun q h => h) (fun r_34 u_33 t_33 H_33 locs_33 ht_33 hvm_33 hr_34 hb_33 hz_33 hk_33 hS_33 => ?_)
                          rw [ht_33] at hb_33
                          obtain ⟨hb_33, hbF_33⟩ := hb_33
                          obtain ⟨hb_331, hb_332, hb_333, hb_334, hb_335⟩ := hb_33
                          have hh_33 : jSt (dC, dI) B base G0 G0 EX6_numberOfBa9 s.heap 0 0 [(r0, 8, 0, .ref xs), (r0, 8, 1, .ref xp), (r0, 8, 2, .ref xl)] [] [] H_33 locs_33 := ((hh_30.call hb_331 hb_332 hb_333 hb_334 hS_33 rfl (L1 := [(r0, 8, 0, .ref xs), (r0, 8, 1, .ref xp), (r0, 8, 2, .ref xl)]) [0, 1, 2] rfl rfl (M1 := []) [] rfl rfl (I1 := []) [] rfl rfl).more hb_335)
                          clear hh_30 ht_33 hvm_33 hz_33 hk_33 hS_33 hb_331 hb_332 hb_333 hb_334 hb_335
                          have hfl_35 := hfl_30.tr hbF_33 (by first | exact fun q h => h | (intro q h9; simp at h9 ⊢; exact h9) | (intro q h9; simp at h9))
                          obtain ⟨hr_34_0, hr_34_1⟩ := hr_34
                          rw [hQ]
                          exact W.iret (v := r_34) hx hb hr (fun t ht hW => ⟨⟨r_34, (), rfl, by first | omega | (refine ⟨?_, ?_⟩ <;> (first | omega | rfl | assumption | decide | exact Or.inl rfl | exact Or.inr rfl | (simp only; omega))), ⟨hh_33.rt (M1 := []) [] rfl ht, by rw [ht]; exact hfl_35⟩⟩, by rw [ht]; try exact hh_33.1.1, fun q h9 hq => by rw [ht]; try exact hh_33.1.2.1 q h9 hq⟩) hh_33.1.2.2 dX6_numberOf_120
                        · skip
                          have c_31' : v8_30.toInt ≥ a2.toInt := jb_lt_n (rfl) (rfl) c_31
                          refine lv_aload_n hx hb dX6_numberOf_75 rfl (lv_at hl 1 rfl) ?_
                          refine lv_iload hx hb dX6_numberOf_76 (lv_at hl 7 rfl) ?_
                          refine j7_iald hx hb hK hh_30 hB175 1 rfl (by decide) hg_r1 (x := v8_30.toInt) (rfl) (by omega) dX6_numberOf_78 (fun z_36 (hz_36 : True) => ?_)
                          refine vp_callSi (W.runS (As := [.int z_36]) (rest := []) ⟨hx, hb, hml, hown, hts⟩ (wX6_signOf l dC dI ca base H_30 z_36) (va_cwS 1 hts (jgS (jWr_7 _ (List.mem_of_getElem? (i := 19) rfl)) (jWr_7 _ (List.mem_of_getElem? (i := 20) rfl)) (jWr_4 _ (List.mem_of_getElem? (i := 10) rfl)) (jWr_7 _ (List.mem_of_getElem? (i := 21) rfl))) rfl rfl rfl (by decide +kernel) ⟨by rw [← hR]; exact Nat.le_of_ble_eq_true rfl, by rw [← hR]; exact Nat.le_of_ble_eq_true rfl⟩) ⟨fun a U g mk q => by obtain ⟨q0, q1, qK, q9⟩ := q; exact ⟨q0, q1, jG.calling g mk a qK, q9⟩, fun U hU hW => ⟨rfl, hU, hG.step hW hU hh_30.1, by first | trivial | omega | (constructor <;> omega)⟩⟩ rfl rfl hl.1 rfl (lv_room (Nat.le_of_ble_eq_true rfl)) dX6_numberOf_79 ⟨Nat.zero_le _, Nat.zero_le _⟩) (fun r_37 hr_37 => ?_)
                          refine lv_istore (lv' := [(9, .int r_37), (0, .ref r0), (1, .ref r1), (2, .int a2), (3, .int a3), (4, .int a4), (5, .int v5_10), (6, .long v6_30), (8, .int v8_30)]) hx hb dX6_numberOf_82 hl (by decide) rfl (fun ls hl => ?_)
                          refine lv_iload hx hb dX6_numberOf_84 (lv_at hl 0 rfl) ?_
                          refine lv_if_ge (tgt := 91) hx hb dX6_numberOf_86 (by decide) (fun c_38 => ?_) (fun c_38 => ?_)
                          · skip
                            have c_38' : r_37.toInt ≥ 0 := jb_ge (rfl) ((by decide)) c_38
                            refine lv_lload hx hb dX6_numberOf_91 (lv_at hl 7 rfl) ?_
                            refine lv_bipush (v := 6) hx hb dX6_numberOf_93 (by decide) ?_
                            refine lv_lshl hx hb dX6_numberOf_95 rfl ?_
                            refine lv_topl (fun z_39 ez_39 => ?_)
                            refine lv_iload hx hb dX6_numberOf_96 (lv_at hl 0 rfl) ?_
                            refine lv_i2l hx hb dX6_numberOf_98 rfl ?_
                            refine lv_topl (fun z_40 ez_40 => ?_)
                            refine lv_lor hx hb dX6_numberOf_99 ?_
                            refine lv_topl (fun z_41 ez_41 => ?_)
                            refine lv_lstore (lv' := [(6, .long z_41), (9, .int r_37), (0, .ref r0), (1, .ref r1), (2, .int a2), (3, .int a3), (4, .int a4), (5, .int v5_10), (8, .int v8_30)]) hx hb dX6_numberOf_100 hl (by decide) rfl (fun ls hl => ?_)
                            obtain ⟨z_42, ez_42⟩ : ∃ y : Int32, y = v8_30 + (-1) := ⟨_, rfl⟩
                            refine lv_iinc (v := z_42) (lv' := [(8, .int z_42), (6, .long z_41), (9, .int r_37), (0, .ref r0), (1, .ref r1), (2, .int a2), (3, .int a3), (4, .int a4), (5, .int v5_10)]) hx hb dX6_numberOf_102 hl (k := 8) rfl (by rw [ez_42]; rfl) (by decide) rfl (fun ls hl => ?_)
                            have hz_42 : z_42.toInt = v8_30.toInt + (-1) := by rw [ez_42]; exact jb_iadd2 (rfl) (by decide) (by omega)
                            refine lv_goto (tgt := 69) hx hb dX6_numberOf_105 (by decide) ?_
                            exact L69 z_41 z_42 _ _ hh_30 (hfl_30) (by first | omega | (refine ⟨?_, ?_⟩ <;> (first | omega | rfl | assumption | decide | exact Or.inl rfl | exact Or.inr rfl | (simp only; omega)))) (by omega) _ (lv_sub hl [3, 4, 5, 6, 7, 8, 1, 0] rfl)
                          · skip
                            have c_38' : r_37.toInt < 0 := jb_ge_n (rfl) ((by decide)) c_38
                            refine lv_iconst (v := (-1)) hx hb dX6_numberOf_89 (by decide) ?_
                            rw [hQ]
                            exact W.iret (v := (-1)) hx hb hr (fun t ht hW => ⟨⟨(-1), (), rfl, by first | omega | (refine ⟨?_, ?_⟩ <;> (first | omega | rfl | assumption | decide | exact Or.inl rfl | exact Or.inr rfl | (simp only; omega))), ⟨hh_30.rt (M1 := []) [] rfl ht, by rw [ht]; exact hfl_30⟩⟩, by rw [ht]; try exact hh_30.1.1, fun q h9 hq => by rw [ht]; try exact hh_30.1.2.1 q h9 hq⟩) hh_30.1.2.2 dX6_numberOf_90
                    exact L69 ((z_29 : Int32).toInt + 1 - a2.toInt : Int).toNat.succ 1 z_29 _ _ hh_10 (hfl_10) (by first | omega | (refine ⟨?_, ?_⟩ <;> (first | omega | rfl | assumption | decide | exact Or.inl rfl | exact Or.inr rfl | (simp only; omega)))) (by omega) _ (lv_sub hl [2, 3, 4, 5, 6, 7, 1, 0] rfl)
                  · skip
                    have c_28' : z_27.toInt = 39 := jb_ne_n (rfl) ((by decide)) c_28
                    obtain ⟨z_43, ez_43⟩ : ∃ y : Int32, y = v5_10 + (-1) := ⟨_, rfl⟩
                    refine lv_iinc (v := z_43) (lv' := [(5, .int z_43), (0, .ref r0), (1, .ref r1), (2, .int a2), (3, .int a3), (4, .int a4)]) hx hb dX6_numberOf_54 hl (k := 5) rfl (by rw [ez_43]; rfl) (by decide) rfl (fun ls hl => ?_)
                    have hz_43 : z_43.toInt = v5_10.toInt + (-1) := by rw [ez_43]; exact jb_iadd2 (rfl) (by decide) (by omega)
                    refine lv_goto (tgt := 37) hx hb dX6_numberOf_57 (by decide) ?_
                    exact L37 z_43 _ _ hh_10 (hfl_10) (by first | omega | (refine ⟨?_, ?_⟩ <;> (first | omega | rfl | assumption | decide | exact Or.inl rfl | exact Or.inr rfl | (simp only; omega)))) (by omega) _ (lv_sub hl [1, 2, 3, 4, 5, 0] rfl)
            exact L37 ((a3 : Int32).toInt - a2.toInt : Int).toNat.succ a3 _ _ hh (hfl) (by first | omega | (refine ⟨?_, ?_⟩ <;> (first | omega | rfl | assumption | decide | exact Or.inl rfl | exact Or.inr rfl | (simp only; omega)))) (by omega) _ (lv_sub hl [1, 2, 3, 4, 5, 0] rfl)
          · skip
            have c_9' : r_8.toInt = 0 := jb_ne_n (rfl) ((by decide)) c_9
            refine lv_iconst (v := (-1)) hx hb dX6_numberOf_32 (by decide) ?_
            rw [hQ]
            exact W.iret (v := (-1)) hx hb hr (fun t ht hW => ⟨⟨(-1), (), rfl, by first | omega | (refine ⟨?_, ?_⟩ <;> (first | omega | rfl | assumption | decide | exact Or.inl rfl | exact Or.inr rfl | (simp only; omega))), ⟨hh.rt (M1 := []) [] rfl ht, by rw [ht]; exact hfl⟩⟩, by rw [ht]; try exact hh.1.1, fun q h9 hq => by rw [ht]; try exact hh.1.2.1 q h9 hq⟩) hh.1.2.2 dX6_numberOf_33
end
section
-- what stands below a place stays
def EX11_isDigitB : List (Nat × Nat) := []
def EX10_peekB : List (Nat × Nat) := []
def EX10_peekNameB : List (Nat × Nat) := []
def EX10_isSignB : List (Nat × Nat) := [(12, 4)]
def EX10_isNameB : List (Nat × Nat) := [(12, 4), (12, 7), (292, 0)]
def EX10_isArityB : List (Nat × Nat) := [(12, 4), (12, 8)]
def EX10_addNodeB : List (Nat × Nat) := [(12, 10), (280, 0)]
def EX10_insertNodeB : List (Nat × Nat) := [(12, 10), (280, 0)]
def EX10_addB : List (Nat × Nat) := [(12, 3), (101, 0), (293, 0)]
set_option maxHeartbeats 4000000 in
set_option maxRecDepth 20000 in
theorem uX11_isDigitB (l : Launch) (dC : Nat → ClassId) (dI : Nat → Nat → Nat) (ca : Nat → ClassId) (base : Nat) (B : jF) (hB : jBok B) (hAp : jAp (dC, dI)) (G0 : jT) (H0 : Heap) (a0 : Int32) : Met l yX11_isDigit (jw yX11_isDigit cX11_isDigit 1 (some .boolean)) ({ frames := 0, cells := 0, slots := 0, locals := 0 }) (va_Pc [.int a0] (fun U => U.heap = H0 ∧ jX B base G0 [] H0 ∧ jG dC dI ca base U ∧ jP (dC, dI) G0 H0 [] ∧ True)) (va_Qi (S := Unit) (fun r u => (r = 0 ∨ r = 1) ∧ (r.toInt = 0 ∨ (48 ≤ a0.toInt ∧ a0.toInt ≤ 57))) (fun u t => jRt (dC, dI) B base G0 EX11_isDigitB H0 [] t.heap) (jA base)) 0 0 (jA base) := by
  refine Met.ofW (cc := cX11_isDigit) (maxL := 1) (ret := (some .boolean)) (by decide) rfl ?_
  intro p e s m args below meth c s₁ Bd hml hv
  obtain ⟨rfl, hH0, hX, hG, hP0, hp0⟩ := hv
  have hK := hG.1
  have hx := Bd.exec
  have hb := Bd.bytes
  have hr := Bd.returns
  have hts := atoms_spec (ws := (jw yX11_isDigit cX11_isDigit 1 (some .boolean))) Bd.pre
  have htw : ∀ w ∈ jWl, w.before _ s = true := fun w h => hts w (List.mem_cons_of_mem _ h)
  have hown : s.vm.findClass RX11 = some m.cls := findClass_of_methodNamed Bd.named
  have hlocks := Bd.notSynchronized
  obtain ⟨Q, hQ⟩ : ∃ Q, Q = MQ below (va_Qi (S := Unit) (fun r u => (r = 0 ∨ r = 1) ∧ (r.toInt = 0 ∨ (48 ≤ a0.toInt ∧ a0.toInt ≤ 57))) (fun u t => jRt (dC, dI) B base G0 EX11_isDigitB H0 [] t.heap) (jA base)) ([.int a0] : List Value).toArray s 0 0 (jA base) := ⟨_, rfl⟩
  rw [← hQ]
  have hl := lv_entry ([.int a0]) (n := 1) (Nat.le_of_ble_eq_true rfl)
  rw [lg_entry_eq]
  generalize (lg_sl ([.int a0]) ++ List.replicate (1 - (lg_sl ([.int a0])).length) Slot.unset).toArray = ls at hl ⊢
  have hl : lv_has ls 1 [(0, .int a0)] := hl
  generalize hR : (headSpec (jw yX11_isDigit cX11_isDigit 1 (some .boolean)) ({ frames := 0, cells := 0, slots := 0, locals := 0 })).room = R
  subst hH0
  have hh : jSt (dC, dI) B base G0 G0 EX11_isDigitB s.heap 0 0 [] [] [] s.heap [] := jSt.start hX hP0 jMc.nil jIs.nil
  clear hX hP0
  have hk0 : (0 : Int32).toInt = 0 := by decide
  have hk1 : (1 : Int32).toInt = 1 := by decide
  have hk48 : (48 : Int32).toInt = 48 := by decide
  have hk57 : (57 : Int32).toInt = 57 := by decide
  have hrg_a0 := jb_rng a0
  refine lv_iload_n hx hb dX11_isDigit_0 rfl (lv_at hl 0 rfl) ?_
  refine lv_bipush (v := 48) hx hb dX11_isDigit_1 (by decide) ?_
  refine lv_icmp_lt (tgt := 16) hx hb dX11_isDigit_3 (by decide) (fun c_1 => ?_) (fun c_1 => ?_)
  · skip
    have c_1' : a0.toInt < 48 := jb_lt (rfl) ((by decide)) c_1
    refine lv_iconst (v := 0) hx hb dX11_isDigit_16 (by decide) ?_
    rw [hQ]
    exact W.zret (v := 0) hx hb hr (jb_nz (Or.inl rfl)) (fun t ht hW => ⟨⟨0, (), rfl, ⟨(Or.inl rfl), by first | omega | rfl | assumption | decide | exact Or.inl rfl | exact Or.inr rfl | (simp only; omega)⟩, hh.rt (M1 := []) [] rfl ht⟩, by rw [ht]; try exact hh.1.1, fun q h9 hq => by rw [ht]; try exact hh.1.2.1 q h9 hq⟩) hh.1.2.2 dX11_isDigit_17
  · skip
    have c_1' : a0.toInt ≥ 48 := jb_lt_n (rfl) ((by decide)) c_1
    refine lv_iload_n hx hb dX11_isDigit_6 rfl (lv_at hl 0 rfl) ?_
    refine lv_bipush (v := 57) hx hb dX11_isDigit_7 (by decide) ?_
    refine lv_icmp_gt (tgt := 16) hx hb dX11_isDigit_9 (by decide) (fun c_2 => ?_) (fun c_2 => ?_)
    · skip
      have c_2' : a0.toInt > 57 := jb_gt (rfl) ((by decide)) c_2
      refine lv_iconst (v := 0) hx hb dX11_isDigit_16 (by decide) ?_
      rw [hQ]
      exact W.zret (v := 0) hx hb hr (jb_nz (Or.inl rfl)) (fun t ht hW => ⟨⟨0, (), rfl, ⟨(Or.inl rfl), by first | omega | rfl | assumption | decide | exact Or.inl rfl | exact Or.inr rfl | (simp only; omega)⟩, hh.rt (M1 := []) [] rfl ht⟩, by rw [ht]; try exact hh.1.1, fun q h9 hq => by rw [ht]; try exact hh.1.2.1 q h9 hq⟩) hh.1.2.2 dX11_isDigit_17
    · skip
      have c_2' : a0.toInt ≤ 57 := jb_gt_n (rfl) ((by decide)) c_2
      refine lv_iconst (v := 1) hx hb dX11_isDigit_12 (by decide) ?_
      refine lv_goto (tgt := 17) hx hb dX11_isDigit_13 (by decide) ?_
      rw [hQ]
      exact W.zret (v := 1) hx hb hr (jb_nz (Or.inr rfl)) (fun t ht hW => ⟨⟨1, (), rfl, ⟨(Or.inr rfl), by first | omega | rfl | assumption | decide | exact Or.inl rfl | exact Or.inr rfl | (simp only; omega)⟩, hh.rt (M1 := []) [] rfl ht⟩, by rw [ht]; try exact hh.1.1, fun q h9 hq => by rw [ht]; try exact hh.1.2.1 q h9 hq⟩) hh.1.2.2 dX11_isDigit_17
set_option maxHeartbeats 4000000 in
set_option maxRecDepth 20000 in
theorem uX10_peekB (l : Launch) (dC : Nat → ClassId) (dI : Nat → Nat → Nat) (ca : Nat → ClassId) (base : Nat) (B : jF) (hB : jBok B) (hAp : jAp (dC, dI)) (hB12 : ∀ n G a H, B 12 n G a H ↔ jOb (dC, dI) 12 11 (F12b n G) a H) (hB101 : ∀ n G a H, B 101 n G a H ↔ jAr (dC, dI) (ca 1) (fun j z => True) n a H) (G0 : jT) (H0 : Heap) (r0 : Nat) (tk : Int32) (pa : Int32) : Met l yX10_peek (jw yX10_peek cX10_peek 1 (some .int)) ({ frames := 0, cells := 0, slots := 0, locals := 0 }) (va_Pc [.ref r0] (fun U => U.heap = H0 ∧ jX B base G0 [] H0 ∧ jG dC dI ca base U ∧ G0 r0 = some (12, 0) ∧ jP (dC, dI) G0 H0 [(r0, 12, 3, .int tk), (r0, 12, 4, .int pa)] ∧ 0 ≤ tk.toInt ∧ tk.toInt ≤ 1500 ∧ 0 ≤ pa.toInt ∧ pa.toInt ≤ 1503)) (va_Qi (S := Unit) (fun r u => (r.toInt = 0 ∨ pa.toInt < tk.toInt)) (fun u t => jRt (dC, dI) B base G0 EX10_peekB H0 [] t.heap) (jA base)) 0 0 (jA base) := by
  refine Met.ofW (cc := cX10_peek) (maxL := 1) (ret := (some .int)) (by decide) rfl ?_
  intro p e s m args below meth c s₁ Bd hml hv
  obtain ⟨rfl, hH0, hX, hG, hg_r0, hP0, hp0, hp1, hp2, hp3⟩ := hv
  have hK := hG.1
  have hx := Bd.exec
  have hb := Bd.bytes
  have hr := Bd.returns
  have hts := atoms_spec (ws := (jw yX10_peek cX10_peek 1 (some .int))) Bd.pre
  have htw : ∀ w ∈ jWl, w.before _ s = true := fun w h => hts w (List.mem_cons_of_mem _ h)
  have hown : s.vm.findClass RX10 = some m.cls := findClass_of_methodNamed Bd.named
  have hlocks := Bd.notSynchronized
  obtain ⟨Q, hQ⟩ : ∃ Q, Q = MQ below (va_Qi (S := Unit) (fun r u => (r.toInt = 0 ∨ pa.toInt < tk.toInt)) (fun u t => jRt (dC, dI) B base G0 EX10_peekB H0 [] t.heap) (jA base)) ([.ref r0] : List Value).toArray s 0 0 (jA base) := ⟨_, rfl⟩
  rw [← hQ]
  have hl := lv_entry ([.ref r0]) (n := 1) (Nat.le_of_ble_eq_true rfl)
  rw [lg_entry_eq]
  generalize (lg_sl ([.ref r0]) ++ List.replicate (1 - (lg_sl ([.ref r0])).length) Slot.unset).toArray = ls at hl ⊢
  have hl : lv_has ls 1 [(0, .ref r0)] := hl
  generalize hR : (headSpec (jw yX10_peek cX10_peek 1 (some .int)) ({ frames := 0, cells := 0, slots := 0, locals := 0 })).room = R
  subst hH0
  have hh : jSt (dC, dI) B base G0 G0 EX10_peekB s.heap 0 0 [(r0, 12, 3, .int tk), (r0, 12, 4, .int pa)] [] [] s.heap [] := jSt.start hX hP0 jMc.nil jIs.nil
  clear hX hP0
  have hk0 : (0 : Int32).toInt = 0 := by decide
  have hk1 : (1 : Int32).toInt = 1 := by decide
  have hk1500 : (1500 : Int32).toInt = 1500 := by decide
  have hly_12_1 := htw (u_lay RX10 TX10 1) (jWc_wsX100 _ (u_in_lay (by decide)))
  have hly_12_3 := htw (u_lay RX10 TX10 3) (jWc_wsX100 _ (u_in_lay (by decide)))
  have hly_12_4 := htw (u_lay RX10 TX10 4) (jWc_wsX100 _ (u_in_lay (by decide)))
  have hlk_83 := (htw (.fieldLink RX10 83 "ProofServer$Syntax" "at" "I") (jWr_79 _ (List.mem_of_getElem? (i := 5) rfl)))
  have hlk_28 := (htw (.fieldLink RX10 28 "ProofServer$Syntax" "tokens" "I") (jWr_36 _ (List.mem_of_getElem? (i := 23) rfl)))
  have hlk_9 := (htw (.fieldLink RX10 9 "ProofServer$Syntax" "kinds" "[I") (jWr_8 _ (List.mem_of_getElem? (i := 8) rfl)))
  refine lv_aload_n hx hb dX10_peek_0 rfl (lv_at hl 0 rfl) ?_
  refine j7_read hx hb hown hK (C := RX10) (T := TX10) (N := 11) rfl hly_12_4 hlk_83 (hh.at 1 rfl) dX10_peek_1 ?_
  refine lv_aload_n hx hb dX10_peek_4 rfl (lv_at hl 0 rfl) ?_
  refine j7_read hx hb hown hK (C := RX10) (T := TX10) (N := 11) rfl hly_12_3 hlk_28 (hh.at 0 rfl) dX10_peek_5 ?_
  refine lv_icmp_ge (tgt := 33) hx hb dX10_peek_8 (by decide) (fun c_1 => ?_) (fun c_1 => ?_)
  · skip
    have c_1' : pa.toInt ≥ tk.toInt := jb_ge (rfl) (rfl) c_1
    refine lv_iconst (v := 0) hx hb dX10_peek_33 (by decide) ?_
    rw [hQ]
    exact W.iret (v := 0) hx hb hr (fun t ht hW => ⟨⟨0, (), rfl, by first | omega | rfl | assumption | decide | exact Or.inl rfl | exact Or.inr rfl | (simp only; omega), hh.rt (M1 := []) [] rfl ht⟩, by rw [ht]; try exact hh.1.1, fun q h9 hq => by rw [ht]; try exact hh.1.2.1 q h9 hq⟩) hh.1.2.2 dX10_peek_34
  · skip
    have c_1' : pa.toInt < tk.toInt := jb_ge_n (rfl) (rfl) c_1
    refine lv_aload_n hx hb dX10_peek_11 rfl (lv_at hl 0 rfl) ?_
    refine j7_read hx hb hown hK (C := RX10) (T := TX10) (N := 11) rfl hly_12_4 hlk_83 (hh.at 1 rfl) dX10_peek_12 ?_
    refine lv_sipush (v := 1500) hx hb dX10_peek_15 (by decide) ?_
    refine lv_icmp_ge (tgt := 33) hx hb dX10_peek_18 (by decide) (fun c_2 => ?_) (fun c_2 => ?_)
    · skip
      have c_2' : pa.toInt ≥ 1500 := jb_ge (rfl) ((by decide)) c_2
      refine lv_iconst (v := 0) hx hb dX10_peek_33 (by decide) ?_
      rw [hQ]
      exact W.iret (v := 0) hx hb hr (fun t ht hW => ⟨⟨0, (), rfl, by first | omega | rfl | assumption | decide | exact Or.inl rfl | exact Or.inr rfl | (simp only; omega), hh.rt (M1 := []) [] rfl ht⟩, by rw [ht]; try exact hh.1.1, fun q h9 hq => by rw [ht]; try exact hh.1.2.1 q h9 hq⟩) hh.1.2.2 dX10_peek_34
    · skip
      have c_2' : pa.toInt < 1500 := jb_ge_n (rfl) ((by decide)) c_2
      refine lv_aload_n hx hb dX10_peek_21 rfl (lv_at hl 0 rfl) ?_
      obtain ⟨v_3, hv_3, hh_4⟩ := hh.pin (C := RX10) (T := TX10) (N := 11) hB12 rfl (by decide) hg_r0 (i := 1) (by decide) rfl
      clear hh
      obtain ⟨kinds_5, rfl, hg_kinds_5⟩ := hv_3
      refine j7_read hx hb hown hK (C := RX10) (T := TX10) (N := 11) rfl hly_12_1 hlk_9 (hh_4.at 0 rfl) dX10_peek_22 ?_
      refine lv_aload_n hx hb dX10_peek_25 rfl (lv_at hl 0 rfl) ?_
      refine j7_read hx hb hown hK (C := RX10) (T := TX10) (N := 11) rfl hly_12_4 hlk_83 (hh_4.at 2 rfl) dX10_peek_26 ?_
      refine j7_iald hx hb hK hh_4 hB101 1 rfl (by decide) hg_kinds_5 (x := pa.toInt) (rfl) (by omega) dX10_peek_29 (fun z_6 (hz_6 : True) => ?_)
      refine lv_goto (tgt := 34) hx hb dX10_peek_30 (by decide) ?_
      rw [hQ]
      exact W.iret (v := z_6) hx hb hr (fun t ht hW => ⟨⟨z_6, (), rfl, by first | omega | rfl | assumption | decide | exact Or.inl rfl | exact Or.inr rfl | (simp only; omega), hh_4.rt (M1 := []) [] rfl ht⟩, by rw [ht]; try exact hh_4.1.1, fun q h9 hq => by rw [ht]; try exact hh_4.1.2.1 q h9 hq⟩) hh_4.1.2.2 dX10_peek_34
set_option maxHeartbeats 4000000 in
set_option maxRecDepth 20000 in
theorem uX10_peekNameB (l : Launch) (dC : Nat → ClassId) (dI : Nat → Nat → Nat) (ca : Nat → ClassId) (base : Nat) (B : jF) (hB : jBok B) (hAp : jAp (dC, dI)) (hB12 : ∀ n G a H, B 12 n G a H ↔ jOb (dC, dI) 12 11 (F12b n G) a H) (hB101 : ∀ n G a H, B 101 n G a H ↔ jAr (dC, dI) (ca 1) (fun j z => True) n a H) (hB293 : ∀ n G a H, B 293 n G a H ↔ jAr (dC, dI) (ca 1) (fun j z => -1 ≤ z.toInt ∧ z.toInt ≤ 8191) n a H) (G0 : jT) (H0 : Heap) (r0 : Nat) (tk : Int32) (pa : Int32) : Met l yX10_peekName (jw yX10_peekName cX10_peekName 1 (some .int)) ({ frames := 1, cells := 0, slots := 0, locals := 20 }) (va_Pc [.ref r0] (fun U => U.heap = H0 ∧ jX B base G0 [] H0 ∧ jG dC dI ca base U ∧ G0 r0 = some (12, 0) ∧ jP (dC, dI) G0 H0 [(r0, 12, 3, .int tk), (r0, 12, 4, .int pa)] ∧ 0 ≤ tk.toInt ∧ tk.toInt ≤ 1500 ∧ 0 ≤ pa.toInt ∧ pa.toInt ≤ 1503)) (va_Qi (S := Unit) (fun r u => ((r.toInt = -1 ∨ pa.toInt < tk.toInt) ∧ -1 ≤ r.toInt ∧ r.toInt ≤ 8191)) (fun u t => jRt (dC, dI) B base G0 EX10_peekNameB H0 [] t.heap) (jA base)) 0 0 (jA base) := by
  refine Met.ofW (cc := cX10_peekName) (maxL := 1) (ret := (some .int)) (by decide) rfl ?_
  intro p e s m args below meth c s₁ Bd hml hv
  obtain ⟨rfl, hH0, hX, hG, hg_r0, hP0, hp0, hp1, hp2, hp3⟩ := hv
  have hK := hG.1
  have hx := Bd.exec
  have hb := Bd.bytes
  have hr := Bd.returns
  have hts := atoms_spec (ws := (jw yX10_peekName cX10_peekName 1 (some .int))) Bd.pre
  have htw : ∀ w ∈ jWl, w.before _ s = true := fun w h => hts w (List.mem_cons_of_mem _ h)
  have hown : s.vm.findClass RX10 = some m.cls := findClass_of_methodNamed Bd.named
  have hlocks := Bd.notSynchronized
  obtain ⟨Q, hQ⟩ : ∃ Q, Q = MQ below (va_Qi (S := Unit) (fun r u => ((r.toInt = -1 ∨ pa.toInt < tk.toInt) ∧ -1 ≤ r.toInt ∧ r.toInt ≤ 8191)) (fun u t => jRt (dC, dI) B base G0 EX10_peekNameB H0 [] t.heap) (jA base)) ([.ref r0] : List Value).toArray s 0 0 (jA base) := ⟨_, rfl⟩
  rw [← hQ]
  have hl := lv_entry ([.ref r0]) (n := 1) (Nat.le_of_ble_eq_true rfl)
  rw [lg_entry_eq]
  generalize (lg_sl ([.ref r0]) ++ List.replicate (1 - (lg_sl ([.ref r0])).length) Slot.unset).toArray = ls at hl ⊢
  have hl : lv_has ls 1 [(0, .ref r0)] := hl
  generalize hR : (headSpec (jw yX10_peekName cX10_peekName 1 (some .int)) ({ frames := 1, cells := 0, slots := 0, locals := 20 })).room = R
  subst hH0
  have hh : jSt (dC, dI) B base G0 G0 EX10_peekNameB s.heap 0 0 [(r0, 12, 3, .int tk), (r0, 12, 4, .int pa)] [] [] s.heap [] := jSt.start hX hP0 jMc.nil jIs.nil
  clear hX hP0
  have hkm1 : ((-1) : Int32).toInt = (-1) := by decide
  have hk0 : (0 : Int32).toInt = 0 := by decide
  have hk1 : (1 : Int32).toInt = 1 := by decide
  have hk110 : (110 : Int32).toInt = 110 := by decide
  have hly_12_2 := htw (u_lay RX10 TX10 2) (jWc_wsX100 _ (u_in_lay (by decide)))
  have hly_12_4 := htw (u_lay RX10 TX10 4) (jWc_wsX100 _ (u_in_lay (by decide)))
  have hlk_15 := (htw (.fieldLink RX10 15 "ProofServer$Syntax" "values" "[I") (jWr_8 _ (List.mem_of_getElem? (i := 9) rfl)))
  have hlk_83 := (htw (.fieldLink RX10 83 "ProofServer$Syntax" "at" "I") (jWr_79 _ (List.mem_of_getElem? (i := 5) rfl)))
  refine lv_aload_n hx hb dX10_peekName_0 rfl (lv_at hl 0 rfl) ?_
  refine va_calli (A0 := jA base) (H0 := s.heap) (va_runV (As := []) (rest := []) ⟨hx, hb, hml, hown, hts⟩ (uX10_peekB l dC dI ca base B hB hAp hB12 hB101 G0 s.heap r0 tk pa) (cwV 0 hts (jgV (jWr_79 _ (List.mem_of_getElem? (i := 18) rfl)) (jWr_79 _ (List.mem_of_getElem? (i := 19) rfl)) (jWr_79 _ (List.mem_of_getElem? (i := 20) rfl)) (jWr_4 _ (List.mem_of_getElem? (i := 14) rfl)) (jWr_79 _ (List.mem_of_getElem? (i := 21) rfl))) rfl rfl rfl (by decide +kernel) ⟨by rw [← hR]; exact Nat.le_of_ble_eq_true rfl, by rw [← hR]; exact Nat.le_of_ble_eq_true rfl⟩) ⟨fun a U g mk q => by obtain ⟨q0, q1, q2, qK, q10, q11, q12⟩ := q; exact ⟨q0, q1, q2, jG.calling g mk a qK, q10, q11, q12⟩, hh.recv (C := RX10) (T := TX10) (N := 11) hB12 rfl (by decide) hg_r0 hK, fun U hU hW => ⟨rfl, hU, hh.2.1, hG.step hW hU hh.1, hg_r0, (hh.2.2.1.sub (L1 := [(r0, 12, 3, .int tk), (r0, 12, 4, .int pa)]) [0, 1] rfl), by first | omega | (refine ⟨?_, ?_, ?_, ?_⟩ <;> (first | omega | rfl | assumption | decide | exact Or.inl rfl | exact Or.inr rfl | (simp only; omega)))⟩⟩ rfl rfl hl.1 rfl (lv_room (Nat.le_of_ble_eq_true rfl)) dX10_peekName_1 ⟨Nat.zero_le _, Nat.zero_le _⟩) hh.1 (fun q _ h => h) (fun q h => h) (fun r_2 u_1 t_1 H_1 locs_1 ht_1 hvm_1 hr_2 hb_1 hz_1 hk_1 hS_1 => ?_)
  rw [ht_1] at hb_1
  obtain ⟨hb_11, hb_12, hb_13, hb_14, hb_15⟩ := hb_1
  have hh_1 : jSt (dC, dI) B base G0 G0 EX10_peekNameB s.heap 0 0 [(r0, 12, 3, .int tk), (r0, 12, 4, .int pa)] [] [] H_1 locs_1 := ((hh.call hb_11 hb_12 hb_13 hb_14 hS_1 rfl (L1 := [(r0, 12, 3, .int tk), (r0, 12, 4, .int pa)]) [0, 1] rfl rfl (M1 := []) [] rfl rfl (I1 := []) [] rfl rfl).more hb_15)
  clear hh ht_1 hvm_1 hz_1 hk_1 hS_1 hb_11 hb_12 hb_13 hb_14 hb_15
  refine lv_bipush (v := 110) hx hb dX10_peekName_4 (by decide) ?_
  refine lv_icmp_ne (tgt := 21) hx hb dX10_peekName_6 (by decide) (fun c_3 => ?_) (fun c_3 => ?_)
  · skip
    have c_3' : r_2.toInt ≠ 110 := jb_ne (rfl) ((by decide)) c_3
    try clear hr_2
    refine lv_iconst (v := (-1)) hx hb dX10_peekName_21 (by decide) ?_
    rw [hQ]
    exact W.iret (v := (-1)) hx hb hr (fun t ht hW => ⟨⟨(-1), (), rfl, by first | omega | (refine ⟨?_, ?_, ?_⟩ <;> (first | omega | rfl | assumption | decide | exact Or.inl rfl | exact Or.inr rfl | (simp only; omega))), hh_1.rt (M1 := []) [] rfl ht⟩, by rw [ht]; try exact hh_1.1.1, fun q h9 hq => by rw [ht]; try exact hh_1.1.2.1 q h9 hq⟩) hh_1.1.2.2 dX10_peekName_22
  · skip
    have c_3' : r_2.toInt = 110 := jb_ne_n (rfl) ((by decide)) c_3
    first | (have hr_2q := hr_2.resolve_left (by omega); clear hr_2) | (have hr_2q := hr_2.resolve_right (by omega); clear hr_2) | try clear hr_2
    refine lv_aload_n hx hb dX10_peekName_9 rfl (lv_at hl 0 rfl) ?_
    obtain ⟨v_4, hv_4, hh_5⟩ := hh_1.pin (C := RX10) (T := TX10) (N := 11) hB12 rfl (by decide) hg_r0 (i := 2) (by decide) rfl
    clear hh_1
    obtain ⟨values_6, rfl, hg_values_6⟩ := hv_4
    refine j7_read hx hb hown hK (C := RX10) (T := TX10) (N := 11) rfl hly_12_2 hlk_15 (hh_5.at 0 rfl) dX10_peekName_10 ?_
    refine lv_aload_n hx hb dX10_peekName_13 rfl (lv_at hl 0 rfl) ?_
    refine j7_read hx hb hown hK (C := RX10) (T := TX10) (N := 11) rfl hly_12_4 hlk_83 (hh_5.at 2 rfl) dX10_peekName_14 ?_
    refine j7_iald hx hb hK hh_5 hB293 1 rfl (by decide) hg_values_6 (x := pa.toInt) (rfl) (by omega) dX10_peekName_17 (fun z_7 (hz_7 : -1 ≤ z_7.toInt ∧ z_7.toInt ≤ 8191) => ?_)
    refine lv_goto (tgt := 22) hx hb dX10_peekName_18 (by decide) ?_
    rw [hQ]
    exact W.iret (v := z_7) hx hb hr (fun t ht hW => ⟨⟨z_7, (), rfl, by first | omega | (refine ⟨?_, ?_, ?_⟩ <;> (first | omega | rfl | assumption | decide | exact Or.inl rfl | exact Or.inr rfl | (simp only; omega))), hh_5.rt (M1 := []) [] rfl ht⟩, by rw [ht]; try exact hh_5.1.1, fun q h9 hq => by rw [ht]; try exact hh_5.1.2.1 q h9 hq⟩) hh_5.1.2.2 dX10_peekName_22
set_option maxHeartbeats 4000000 in
set_option maxRecDepth 20000 in
theorem uX10_isSignB (l : Launch) (dC : Nat → ClassId) (dI : Nat → Nat → Nat) (ca : Nat → ClassId) (base : Nat) (B : jF) (hB : jBok B) (hAp : jAp (dC, dI)) (hB12 : ∀ n G a H, B 12 n G a H ↔ jOb (dC, dI) 12 11 (F12b n G) a H) (hB101 : ∀ n G a H, B 101 n G a H ↔ jAr (dC, dI) (ca 1) (fun j z => True) n a H) (G0 : jT) (H0 : Heap) (r0 : Nat) (a1 : Int32) (tk : Int32) (pa : Int32) : Met l yX10_isSign (jw yX10_isSign cX10_isSign 3 (some .boolean)) ({ frames := 0, cells := 0, slots := 0, locals := 0 }) (va_Pc [.ref r0, .int a1] (fun U => U.heap = H0 ∧ jX B base G0 [] H0 ∧ jG dC dI ca base U ∧ G0 r0 = some (12, 0) ∧ jP (dC, dI) G0 H0 [(r0, 12, 3, .int tk), (r0, 12, 4, .int pa)] ∧ 0 ≤ tk.toInt ∧ tk.toInt ≤ 1500 ∧ 0 ≤ pa.toInt ∧ pa.toInt ≤ 1503 ∧ pa.toInt ≤ tk.toInt + 2)) (va_Qi (S := Int32) (fun r u => (r = 0 ∨ r = 1) ∧ (u.toInt = pa.toInt + 1 ∧ (r.toInt = 0 ∨ pa.toInt < tk.toInt))) (fun u t => jRt (dC, dI) B base G0 EX10_isSignB H0 [(r0, 12, 4, .int u)] t.heap) (jA base)) 0 0 (jA base) := by
  refine Met.ofW (cc := cX10_isSign) (maxL := 3) (ret := (some .boolean)) (by decide) rfl ?_
  intro p e s m args below meth c s₁ Bd hml hv
  obtain ⟨rfl, hH0, hX, hG, hg_r0, hP0, hp0, hp1, hp2, hp3, hp4⟩ := hv
  have hK := hG.1
  have hx := Bd.exec
  have hb := Bd.bytes
  have hr := Bd.returns
  have hts := atoms_spec (ws := (jw yX10_isSign cX10_isSign 3 (some .boolean))) Bd.pre
  have htw : ∀ w ∈ jWl, w.before _ s = true := fun w h => hts w (List.mem_cons_of_mem _ h)
  have hown : s.vm.findClass RX10 = some m.cls := findClass_of_methodNamed Bd.named
  have hlocks := Bd.notSynchronized
  obtain ⟨Q, hQ⟩ : ∃ Q, Q = MQ below (va_Qi (S := Int32) (fun r u => (r = 0 ∨ r = 1) ∧ (u.toInt = pa.toInt + 1 ∧ (r.toInt = 0 ∨ pa.toInt < tk.toInt))) (fun u t => jRt (dC, dI) B base G0 EX10_isSignB H0 [(r0, 12, 4, .int u)] t.heap) (jA base)) ([.ref r0, .int a1] : List Value).toArray s 0 0 (jA base) := ⟨_, rfl⟩
  rw [← hQ]
  have hl := lv_entry ([.ref r0, .int a1]) (n := 3) (Nat.le_of_ble_eq_true rfl)
  rw [lg_entry_eq]
  generalize (lg_sl ([.ref r0, .int a1]) ++ List.replicate (3 - (lg_sl ([.ref r0, .int a1])).length) Slot.unset).toArray = ls at hl ⊢
  have hl : lv_has ls 3 [(0, .ref r0), (1, .int a1)] := hl
  generalize hR : (headSpec (jw yX10_isSign cX10_isSign 3 (some .boolean)) ({ frames := 0, cells := 0, slots := 0, locals := 0 })).room = R
  subst hH0
  have hh : jSt (dC, dI) B base G0 G0 EX10_isSignB s.heap 0 0 [(r0, 12, 3, .int tk), (r0, 12, 4, .int pa)] [] [] s.heap [] := jSt.start hX hP0 jMc.nil jIs.nil
  clear hX hP0
  have hk0 : (0 : Int32).toInt = 0 := by decide
  have hk1 : (1 : Int32).toInt = 1 := by decide
  have hk1500 : (1500 : Int32).toInt = 1500 := by decide
  have hly_12_1 := htw (u_lay RX10 TX10 1) (jWc_wsX100 _ (u_in_lay (by decide)))
  have hly_12_3 := htw (u_lay RX10 TX10 3) (jWc_wsX100 _ (u_in_lay (by decide)))
  have hly_12_4 := htw (u_lay RX10 TX10 4) (jWc_wsX100 _ (u_in_lay (by decide)))
  have hlk_83 := (htw (.fieldLink RX10 83 "ProofServer$Syntax" "at" "I") (jWr_79 _ (List.mem_of_getElem? (i := 5) rfl)))
  have hlk_28 := (htw (.fieldLink RX10 28 "ProofServer$Syntax" "tokens" "I") (jWr_36 _ (List.mem_of_getElem? (i := 23) rfl)))
  have hlk_9 := (htw (.fieldLink RX10 9 "ProofServer$Syntax" "kinds" "[I") (jWr_8 _ (List.mem_of_getElem? (i := 8) rfl)))
  have hrg_a1 := jb_rng a1
  refine lv_aload_n hx hb dX10_isSign_0 rfl (lv_at hl 0 rfl) ?_
  refine j7_read hx hb hown hK (C := RX10) (T := TX10) (N := 11) rfl hly_12_4 hlk_83 (hh.at 1 rfl) dX10_isSign_1 ?_
  refine lv_aload_n hx hb dX10_isSign_4 rfl (lv_at hl 0 rfl) ?_
  refine j7_read hx hb hown hK (C := RX10) (T := TX10) (N := 11) rfl hly_12_3 hlk_28 (hh.at 0 rfl) dX10_isSign_5 ?_
  refine lv_icmp_ge (tgt := 38) hx hb dX10_isSign_8 (by decide) (fun c_1 => ?_) (fun c_1 => ?_)
  · skip
    have c_1' : pa.toInt ≥ tk.toInt := jb_ge (rfl) (rfl) c_1
    refine lv_iconst (v := 0) hx hb dX10_isSign_38 (by decide) ?_
    refine lv_istore_n (lv' := [(2, .int 0), (0, .ref r0), (1, .int a1)]) hx hb dX10_isSign_39 rfl hl (by decide) rfl (fun ls hl => ?_)
    refine lv_aload_n hx hb dX10_isSign_40 rfl (lv_at hl 1 rfl) ?_
    refine lv_dup hx hb dX10_isSign_41 rfl ?_
    refine j7_read hx hb hown hK (C := RX10) (T := TX10) (N := 11) rfl hly_12_4 hlk_83 (hh.at 1 rfl) dX10_isSign_42 ?_
    refine lv_iconst (v := 1) hx hb dX10_isSign_45 (by decide) ?_
    refine lv_iadd hx hb dX10_isSign_46 ?_
    refine lv_topi (fun z_2 ez_2 => ?_)
    have hz_2 : z_2.toInt = pa.toInt + 1 := by rw [ez_2]; exact jb_iadd2 (rfl) ((by decide)) (by omega)
    refine j7_put hx hb hown hK hh hB hAp hB12 (C := RX10) (T := TX10) (N := 11) rfl (by decide) hg_r0 (i := 4) (by decide) hly_12_4 rfl hlk_83 rfl (ty := .int) (v := .int z_2) (by decide +kernel) rfl rfl (⟨_, rfl, by omega, by omega⟩) rfl (L1 := [(r0, 12, 3, .int tk)]) [0] rfl rfl rfl dX10_isSign_47 (fun H_3 locs_3 hh_3 => ?_)
    clear hh
    refine lv_iload_n hx hb dX10_isSign_50 rfl (lv_at hl 0 rfl) ?_
    rw [hQ]
    exact W.zret (v := 0) hx hb hr (jb_nz (Or.inl rfl)) (fun t ht hW => ⟨⟨0, z_2, rfl, ⟨(Or.inl rfl), by first | omega | (refine ⟨?_, ?_⟩ <;> (first | omega | rfl | assumption | decide | exact Or.inl rfl | exact Or.inr rfl | (simp only; omega)))⟩, hh_3.rt (M1 := [(r0, 12, 4, .int z_2)]) [0] rfl ht⟩, by rw [ht]; try exact hh_3.1.1, fun q h9 hq => by rw [ht]; try exact hh_3.1.2.1 q h9 hq⟩) hh_3.1.2.2 dX10_isSign_51
  · skip
    have c_1' : pa.toInt < tk.toInt := jb_ge_n (rfl) (rfl) c_1
    refine lv_aload_n hx hb dX10_isSign_11 rfl (lv_at hl 0 rfl) ?_
    refine j7_read hx hb hown hK (C := RX10) (T := TX10) (N := 11) rfl hly_12_4 hlk_83 (hh.at 1 rfl) dX10_isSign_12 ?_
    refine lv_sipush (v := 1500) hx hb dX10_isSign_15 (by decide) ?_
    refine lv_icmp_ge (tgt := 38) hx hb dX10_isSign_18 (by decide) (fun c_4 => ?_) (fun c_4 => ?_)
    · skip
      have c_4' : pa.toInt ≥ 1500 := jb_ge (rfl) ((by decide)) c_4
      refine lv_iconst (v := 0) hx hb dX10_isSign_38 (by decide) ?_
      refine lv_istore_n (lv' := [(2, .int 0), (0, .ref r0), (1, .int a1)]) hx hb dX10_isSign_39 rfl hl (by decide) rfl (fun ls hl => ?_)
      refine lv_aload_n hx hb dX10_isSign_40 rfl (lv_at hl 1 rfl) ?_
      refine lv_dup hx hb dX10_isSign_41 rfl ?_
      refine j7_read hx hb hown hK (C := RX10) (T := TX10) (N := 11) rfl hly_12_4 hlk_83 (hh.at 1 rfl) dX10_isSign_42 ?_
      refine lv_iconst (v := 1) hx hb dX10_isSign_45 (by decide) ?_
      refine lv_iadd hx hb dX10_isSign_46 ?_
      refine lv_topi (fun z_5 ez_5 => ?_)
      have hz_5 : z_5.toInt = pa.toInt + 1 := by rw [ez_5]; exact jb_iadd2 (rfl) ((by decide)) (by omega)
      refine j7_put hx hb hown hK hh hB hAp hB12 (C := RX10) (T := TX10) (N := 11) rfl (by decide) hg_r0 (i := 4) (by decide) hly_12_4 rfl hlk_83 rfl (ty := .int) (v := .int z_5) (by decide +kernel) rfl rfl (⟨_, rfl, by omega, by omega⟩) rfl (L1 := [(r0, 12, 3, .int tk)]) [0] rfl rfl rfl dX10_isSign_47 (fun H_6 locs_6 hh_6 => ?_)
      clear hh
      refine lv_iload_n hx hb dX10_isSign_50 rfl (lv_at hl 0 rfl) ?_
      rw [hQ]
      exact W.zret (v := 0) hx hb hr (jb_nz (Or.inl rfl)) (fun t ht hW => ⟨⟨0, z_5, rfl, ⟨(Or.inl rfl), by first | omega | (refine ⟨?_, ?_⟩ <;> (first | omega | rfl | assumption | decide | exact Or.inl rfl | exact Or.inr rfl | (simp only; omega)))⟩, hh_6.rt (M1 := [(r0, 12, 4, .int z_5)]) [0] rfl ht⟩, by rw [ht]; try exact hh_6.1.1, fun q h9 hq => by rw [ht]; try exact hh_6.1.2.1 q h9 hq⟩) hh_6.1.2.2 dX10_isSign_51
    · skip
      have c_4' : pa.toInt < 1500 := jb_ge_n (rfl) ((by decide)) c_4
      refine lv_aload_n hx hb dX10_isSign_21 rfl (lv_at hl 0 rfl) ?_
      obtain ⟨v_7, hv_7, hh_8⟩ := hh.pin (C := RX10) (T := TX10) (N := 11) hB12 rfl (by decide) hg_r0 (i := 1) (by decide) rfl
      clear hh
      obtain ⟨kinds_9, rfl, hg_kinds_9⟩ := hv_7
      refine j7_read hx hb hown hK (C := RX10) (T := TX10) (N := 11) rfl hly_12_1 hlk_9 (hh_8.at 0 rfl) dX10_isSign_22 ?_
      refine lv_aload_n hx hb dX10_isSign_25 rfl (lv_at hl 0 rfl) ?_
      refine j7_read hx hb hown hK (C := RX10) (T := TX10) (N := 11) rfl hly_12_4 hlk_83 (hh_8.at 2 rfl) dX10_isSign_26 ?_
      refine j7_iald hx hb hK hh_8 hB101 1 rfl (by decide) hg_kinds_9 (x := pa.toInt) (rfl) (by omega) dX10_isSign_29 (fun z_10 (hz_10 : True) => ?_)
      refine lv_iload_n hx hb dX10_isSign_30 rfl (lv_at hl 1 rfl) ?_
      refine lv_icmp_ne (tgt := 38) hx hb dX10_isSign_31 (by decide) (fun c_11 => ?_) (fun c_11 => ?_)
      · skip
        have c_11' : z_10.toInt ≠ a1.toInt := jb_ne (rfl) (rfl) c_11
        refine lv_iconst (v := 0) hx hb dX10_isSign_38 (by decide) ?_
        refine lv_istore_n (lv' := [(2, .int 0), (0, .ref r0), (1, .int a1)]) hx hb dX10_isSign_39 rfl hl (by decide) rfl (fun ls hl => ?_)
        refine lv_aload_n hx hb dX10_isSign_40 rfl (lv_at hl 1 rfl) ?_
        refine lv_dup hx hb dX10_isSign_41 rfl ?_
        refine j7_read hx hb hown hK (C := RX10) (T := TX10) (N := 11) rfl hly_12_4 hlk_83 (hh_8.at 2 rfl) dX10_isSign_42 ?_
        refine lv_iconst (v := 1) hx hb dX10_isSign_45 (by decide) ?_
        refine lv_iadd hx hb dX10_isSign_46 ?_
        refine lv_topi (fun z_12 ez_12 => ?_)
        have hz_12 : z_12.toInt = pa.toInt + 1 := by rw [ez_12]; exact jb_iadd2 (rfl) ((by decide)) (by omega)
        refine j7_put hx hb hown hK hh_8 hB hAp hB12 (C := RX10) (T := TX10) (N := 11) rfl (by decide) hg_r0 (i := 4) (by decide) hly_12_4 rfl hlk_83 rfl (ty := .int) (v := .int z_12) (by decide +kernel) rfl rfl (⟨_, rfl, by omega, by omega⟩) rfl (L1 := [(r0, 12, 1, .ref kinds_9), (r0, 12, 3, .int tk)]) [0, 1] rfl rfl rfl dX10_isSign_47 (fun H_13 locs_13 hh_13 => ?_)
        clear hh_8
        refine lv_iload_n hx hb dX10_isSign_50 rfl (lv_at hl 0 rfl) ?_
        rw [hQ]
        exact W.zret (v := 0) hx hb hr (jb_nz (Or.inl rfl)) (fun t ht hW => ⟨⟨0, z_12, rfl, ⟨(Or.inl rfl), by first | omega | (refine ⟨?_, ?_⟩ <;> (first | omega | rfl | assumption | decide | exact Or.inl rfl | exact Or.inr rfl | (simp only; omega)))⟩, hh_13.rt (M1 := [(r0, 12, 4, .int z_12)]) [0] rfl ht⟩, by rw [ht]; try exact hh_13.1.1, fun q h9 hq => by rw [ht]; try exact hh_13.1.2.1 q h9 hq⟩) hh_13.1.2.2 dX10_isSign_51
      · skip
        have c_11' : z_10.toInt = a1.toInt := jb_ne_n (rfl) (rfl) c_11
        refine lv_iconst (v := 1) hx hb dX10_isSign_34 (by decide) ?_
        refine lv_goto (tgt := 39) hx hb dX10_isSign_35 (by decide) ?_
        refine lv_istore_n (lv' := [(2, .int 1), (0, .ref r0), (1, .int a1)]) hx hb dX10_isSign_39 rfl hl (by decide) rfl (fun ls hl => ?_)
        refine lv_aload_n hx hb dX10_isSign_40 rfl (lv_at hl 1 rfl) ?_
        refine lv_dup hx hb dX10_isSign_41 rfl ?_
        refine j7_read hx hb hown hK (C := RX10) (T := TX10) (N := 11) rfl hly_12_4 hlk_83 (hh_8.at 2 rfl) dX10_isSign_42 ?_
        refine lv_iconst (v := 1) hx hb dX10_isSign_45 (by decide) ?_
        refine lv_iadd hx hb dX10_isSign_46 ?_
        refine lv_topi (fun z_14 ez_14 => ?_)
        have hz_14 : z_14.toInt = pa.toInt + 1 := by rw [ez_14]; exact jb_iadd2 (rfl) ((by decide)) (by omega)
        refine j7_put hx hb hown hK hh_8 hB hAp hB12 (C := RX10) (T := TX10) (N := 11) rfl (by decide) hg_r0 (i := 4) (by decide) hly_12_4 rfl hlk_83 rfl (ty := .int) (v := .int z_14) (by decide +kernel) rfl rfl (⟨_, rfl, by omega, by omega⟩) rfl (L1 := [(r0, 12, 1, .ref kinds_9), (r0, 12, 3, .int tk)]) [0, 1] rfl rfl rfl dX10_isSign_47 (fun H_15 locs_15 hh_15 => ?_)
        clear hh_8
        refine lv_iload_n hx hb dX10_isSign_50 rfl (lv_at hl 0 rfl) ?_
        rw [hQ]
        exact W.zret (v := 1) hx hb hr (jb_nz (Or.inr rfl)) (fun t ht hW => ⟨⟨1, z_14, rfl, ⟨(Or.inr rfl), by first | omega | (refine ⟨?_, ?_⟩ <;> (first | omega | rfl | assumption | decide | exact Or.inl rfl | exact Or.inr rfl | (simp only; omega)))⟩, hh_15.rt (M1 := [(r0, 12, 4, .int z_14)]) [0] rfl ht⟩, by rw [ht]; try exact hh_15.1.1, fun q h9 hq => by rw [ht]; try exact hh_15.1.2.1 q h9 hq⟩) hh_15.1.2.2 dX10_isSign_51
set_option maxHeartbeats 4000000 in
set_option maxRecDepth 20000 in
theorem uX10_isNameB (l : Launch) (dC : Nat → ClassId) (dI : Nat → Nat → Nat) (ca : Nat → ClassId) (base : Nat) (B : jF) (hB : jBok B) (hAp : jAp (dC, dI)) (hB12 : ∀ n G a H, B 12 n G a H ↔ jOb (dC, dI) 12 11 (F12b n G) a H) (hB101 : ∀ n G a H, B 101 n G a H ↔ jAr (dC, dI) (ca 1) (fun j z => True) n a H) (hB292 : ∀ n G a H, B 292 n G a H ↔ jAr (dC, dI) (ca 1) (fun j z => 0 ≤ z.toInt ∧ z.toInt ≤ 8191) n a H) (hB293 : ∀ n G a H, B 293 n G a H ↔ jAr (dC, dI) (ca 1) (fun j z => -1 ≤ z.toInt ∧ z.toInt ≤ 8191) n a H) (G0 : jT) (H0 : Heap) (r0 : Nat) (tk : Int32) (pa : Int32) : Met l yX10_isName (jw yX10_isName cX10_isName 2 (some .boolean)) ({ frames := 2, cells := 0, slots := 0, locals := 40 }) (va_Pc [.ref r0] (fun U => U.heap = H0 ∧ jX B base G0 [] H0 ∧ jG dC dI ca base U ∧ G0 r0 = some (12, 0) ∧ jP (dC, dI) G0 H0 [(r0, 12, 3, .int tk), (r0, 12, 4, .int pa)] ∧ 0 ≤ tk.toInt ∧ tk.toInt ≤ 1500 ∧ 0 ≤ pa.toInt ∧ pa.toInt ≤ 1503 ∧ pa.toInt ≤ tk.toInt + 2)) (va_Qi (S := Int32) (fun r u => (r = 0 ∨ r = 1) ∧ (u.toInt = pa.toInt + 1 ∧ (r.toInt = 0 ∨ pa.toInt < tk.toInt))) (fun u t => jRt (dC, dI) B base G0 EX10_isNameB H0 [(r0, 12, 4, .int u)] t.heap) (jA base)) 0 0 (jA base) := by
  refine Met.ofW (cc := cX10_isName) (maxL := 2) (ret := (some .boolean)) (by decide) rfl ?_
  intro p e s m args below meth c s₁ Bd hml hv
  obtain ⟨rfl, hH0, hX, hG, hg_r0, hP0, hp0, hp1, hp2, hp3, hp4⟩ := hv
  have hK := hG.1
  have hx := Bd.exec
  have hb := Bd.bytes
  have hr := Bd.returns
  have hts := atoms_spec (ws := (jw yX10_isName cX10_isName 2 (some .boolean))) Bd.pre
  have htw : ∀ w ∈ jWl, w.before _ s = true := fun w h => hts w (List.mem_cons_of_mem _ h)
  have hown : s.vm.findClass RX10 = some m.cls := findClass_of_methodNamed Bd.named
  have hlocks := Bd.notSynchronized
  obtain ⟨Q, hQ⟩ : ∃ Q, Q = MQ below (va_Qi (S := Int32) (fun r u => (r = 0 ∨ r = 1) ∧ (u.toInt = pa.toInt + 1 ∧ (r.toInt = 0 ∨ pa.toInt < tk.toInt))) (fun u t => jRt (dC, dI) B base G0 EX10_isNameB H0 [(r0, 12, 4, .int u)] t.heap) (jA base)) ([.ref r0] : List Value).toArray s 0 0 (jA base) := ⟨_, rfl⟩
  rw [← hQ]
  have hl := lv_entry ([.ref r0]) (n := 2) (Nat.le_of_ble_eq_true rfl)
  rw [lg_entry_eq]
  generalize (lg_sl ([.ref r0]) ++ List.replicate (2 - (lg_sl ([.ref r0])).length) Slot.unset).toArray = ls at hl ⊢
  have hl : lv_has ls 2 [(0, .ref r0)] := hl
  generalize hR : (headSpec (jw yX10_isName cX10_isName 2 (some .boolean)) ({ frames := 2, cells := 0, slots := 0, locals := 40 })).room = R
  subst hH0
  have hh : jSt (dC, dI) B base G0 G0 EX10_isNameB s.heap 0 0 [(r0, 12, 3, .int tk), (r0, 12, 4, .int pa)] [] [] s.heap [] := jSt.start hX hP0 jMc.nil jIs.nil
  clear hX hP0
  have hk0 : (0 : Int32).toInt = 0 := by decide
  have hk1 : (1 : Int32).toInt = 1 := by decide
  have hk2 : (2 : Int32).toInt = 2 := by decide
  have hly_12_4 := htw (u_lay RX10 TX10 4) (jWc_wsX100 _ (u_in_lay (by decide)))
  have hly_12_6 := htw (u_lay RX10 TX10 6) (jWc_wsX100 _ (u_in_lay (by decide)))
  have hly_12_7 := htw (u_lay RX10 TX10 7) (jWc_wsX100 _ (u_in_lay (by decide)))
  have hlk_83 := (htw (.fieldLink RX10 83 "ProofServer$Syntax" "at" "I") (jWr_79 _ (List.mem_of_getElem? (i := 5) rfl)))
  have hlk_86 := (htw (.fieldLink RX10 86 "ProofServer$Syntax" "toldCount" "I") (jWr_79 _ (List.mem_of_getElem? (i := 6) rfl)))
  have hlk_18 := (htw (.fieldLink RX10 18 "ProofServer$Syntax" "told" "[I") (jWr_8 _ (List.mem_of_getElem? (i := 10) rfl)))
  refine lv_aload_n hx hb dX10_isName_0 rfl (lv_at hl 0 rfl) ?_
  refine va_calli (A0 := jA base) (H0 := s.heap) (va_runV (As := []) (rest := []) ⟨hx, hb, hml, hown, hts⟩ (uX10_peekNameB l dC dI ca base B hB hAp hB12 hB101 hB293 G0 s.heap r0 tk pa) (cwV 0 hts (jgV (jWr_79 _ (List.mem_of_getElem? (i := 14) rfl)) (jWr_79 _ (List.mem_of_getElem? (i := 15) rfl)) (jWr_79 _ (List.mem_of_getElem? (i := 16) rfl)) (jWr_4 _ (List.mem_of_getElem? (i := 14) rfl)) (jWr_79 _ (List.mem_of_getElem? (i := 17) rfl))) rfl rfl rfl (by decide +kernel) ⟨by rw [← hR]; exact Nat.le_of_ble_eq_true rfl, by rw [← hR]; exact Nat.le_of_ble_eq_true rfl⟩) ⟨fun a U g mk q => by obtain ⟨q0, q1, q2, qK, q10, q11, q12⟩ := q; exact ⟨q0, q1, q2, jG.calling g mk a qK, q10, q11, q12⟩, hh.recv (C := RX10) (T := TX10) (N := 11) hB12 rfl (by decide) hg_r0 hK, fun U hU hW => ⟨rfl, hU, hh.2.1, hG.step hW hU hh.1, hg_r0, (hh.2.2.1.sub (L1 := [(r0, 12, 3, .int tk), (r0, 12, 4, .int pa)]) [0, 1] rfl), by first | omega | (refine ⟨?_, ?_, ?_, ?_⟩ <;> (first | omega | rfl | assumption | decide | exact Or.inl rfl | exact Or.inr rfl | (simp only; omega)))⟩⟩ rfl rfl hl.1 rfl (lv_room (Nat.le_of_ble_eq_true rfl)) dX10_isName_1 ⟨Nat.zero_le _, Nat.zero_le _⟩) hh.1 (fun q _ h => h) (fun q h => h) (fun r_2 u_1 t_1 H_1 locs_1 ht_1 hvm_1 hr_2 hb_1 hz_1 hk_1 hS_1 => ?_)
  rw [ht_1] at hb_1
  obtain ⟨hb_11, hb_12, hb_13, hb_14, hb_15⟩ := hb_1
  have hh_1 : jSt (dC, dI) B base G0 G0 EX10_isNameB s.heap 0 0 [(r0, 12, 3, .int tk), (r0, 12, 4, .int pa)] [] [] H_1 locs_1 := ((hh.call hb_11 hb_12 hb_13 hb_14 hS_1 rfl (L1 := [(r0, 12, 3, .int tk), (r0, 12, 4, .int pa)]) [0, 1] rfl rfl (M1 := []) [] rfl rfl (I1 := []) [] rfl rfl).more hb_15)
  clear hh ht_1 hvm_1 hz_1 hk_1 hS_1 hb_11 hb_12 hb_13 hb_14 hb_15
  obtain ⟨hr_2_0, hr_2_1, hr_2_2⟩ := hr_2
  refine lv_istore_n (lv' := [(1, .int r_2), (0, .ref r0)]) hx hb dX10_isName_4 rfl hl (by decide) rfl (fun ls hl => ?_)
  refine lv_aload_n hx hb dX10_isName_5 rfl (lv_at hl 1 rfl) ?_
  refine lv_dup hx hb dX10_isName_6 rfl ?_
  refine j7_read hx hb hown hK (C := RX10) (T := TX10) (N := 11) rfl hly_12_4 hlk_83 (hh_1.at 1 rfl) dX10_isName_7 ?_
  refine lv_iconst (v := 1) hx hb dX10_isName_10 (by decide) ?_
  refine lv_iadd hx hb dX10_isName_11 ?_
  refine lv_topi (fun z_3 ez_3 => ?_)
  have hz_3 : z_3.toInt = pa.toInt + 1 := by rw [ez_3]; exact jb_iadd2 (rfl) ((by decide)) (by omega)
  refine j7_put hx hb hown hK hh_1 hB hAp hB12 (C := RX10) (T := TX10) (N := 11) rfl (by decide) hg_r0 (i := 4) (by decide) hly_12_4 rfl hlk_83 rfl (ty := .int) (v := .int z_3) (by decide +kernel) rfl rfl (⟨_, rfl, by omega, by omega⟩) rfl (L1 := [(r0, 12, 3, .int tk)]) [0] rfl rfl rfl dX10_isName_12 (fun H_4 locs_4 hh_4 => ?_)
  clear hh_1
  refine lv_iload_n hx hb dX10_isName_15 rfl (lv_at hl 0 rfl) ?_
  refine lv_iconst (v := 2) hx hb dX10_isName_16 (by decide) ?_
  refine lv_icmp_le (tgt := 32) hx hb dX10_isName_17 (by decide) (fun c_5 => ?_) (fun c_5 => ?_)
  · skip
    have c_5' : r_2.toInt ≤ 2 := jb_le (rfl) ((by decide)) c_5
    first | (have hr_2_0q := hr_2_0.resolve_left (by omega); clear hr_2_0) | (have hr_2_0q := hr_2_0.resolve_right (by omega); clear hr_2_0) | skip
    refine lv_iconst (v := 0) hx hb dX10_isName_32 (by decide) ?_
    rw [hQ]
    exact W.zret (v := 0) hx hb hr (jb_nz (Or.inl rfl)) (fun t ht hW => ⟨⟨0, z_3, rfl, ⟨(Or.inl rfl), by first | omega | (refine ⟨?_, ?_⟩ <;> (first | omega | rfl | assumption | decide | exact Or.inl rfl | exact Or.inr rfl | (simp only; omega)))⟩, hh_4.rt (M1 := [(r0, 12, 4, .int z_3)]) [0] rfl ht⟩, by rw [ht]; try exact hh_4.1.1, fun q h9 hq => by rw [ht]; try exact hh_4.1.2.1 q h9 hq⟩) hh_4.1.2.2 dX10_isName_33
  · skip
    have c_5' : r_2.toInt > 2 := jb_le_n (rfl) ((by decide)) c_5
    first | (have hr_2_0q := hr_2_0.resolve_left (by omega); clear hr_2_0) | (have hr_2_0q := hr_2_0.resolve_right (by omega); clear hr_2_0) | skip
    refine lv_aload_n hx hb dX10_isName_20 rfl (lv_at hl 1 rfl) ?_
    obtain ⟨v_6, hv_6, hh_7⟩ := hh_4.pin (C := RX10) (T := TX10) (N := 11) hB12 rfl (by decide) hg_r0 (i := 7) (by decide) rfl
    clear hh_4
    obtain ⟨toldCount_8, rfl, hlotoldCount_8, hhitoldCount_8⟩ := hv_6
    refine j7_read hx hb hown hK (C := RX10) (T := TX10) (N := 11) rfl hly_12_7 hlk_86 (hh_7.at 0 rfl) dX10_isName_21 ?_
    refine lv_aload_n hx hb dX10_isName_24 rfl (lv_at hl 1 rfl) ?_
    obtain ⟨v_9, hv_9, hh_10⟩ := hh_7.pin (C := RX10) (T := TX10) (N := 11) hB12 rfl (by decide) hg_r0 (i := 6) (by decide) rfl
    clear hh_7
    obtain ⟨told_11, rfl, hg_told_11⟩ := hv_9
    refine j7_read hx hb hown hK (C := RX10) (T := TX10) (N := 11) rfl hly_12_6 hlk_18 (hh_10.at 0 rfl) dX10_isName_25 ?_
    refine j7_len hx hb hK hh_10 hB292 1 rfl (by decide) hg_told_11 (by omega) dX10_isName_28 (fun z_12 hz_12 => ?_)
    refine lv_icmp_lt (tgt := 34) hx hb dX10_isName_29 (by decide) (fun c_13 => ?_) (fun c_13 => ?_)
    · skip
      have c_13' : toldCount_8.toInt < z_12.toInt := jb_lt (rfl) (rfl) c_13
      refine lv_aload_n hx hb dX10_isName_34 rfl (lv_at hl 1 rfl) ?_
      refine j7_read hx hb hown hK (C := RX10) (T := TX10) (N := 11) rfl hly_12_6 hlk_18 (hh_10.at 0 rfl) dX10_isName_35 ?_
      refine lv_aload_n hx hb dX10_isName_38 rfl (lv_at hl 1 rfl) ?_
      refine j7_read hx hb hown hK (C := RX10) (T := TX10) (N := 11) rfl hly_12_7 hlk_86 (hh_10.at 1 rfl) dX10_isName_39 ?_
      refine lv_iload_n hx hb dX10_isName_42 rfl (lv_at hl 0 rfl) ?_
      refine j7_iast hx hb hK hh_10 hB hB292 1 rfl (by decide) (by decide) rfl rfl rfl hg_told_11 (x := toldCount_8.toInt) (rfl) (by omega) (by first | omega | (refine ⟨?_, ?_⟩ <;> (first | omega | rfl | assumption | decide | exact Or.inl rfl | exact Or.inr rfl | (simp only; omega)))) dX10_isName_43 (fun H_14 locs_14 hh_14 => ?_)
      clear hh_10
      refine lv_aload_n hx hb dX10_isName_44 rfl (lv_at hl 1 rfl) ?_
      refine lv_dup hx hb dX10_isName_45 rfl ?_
      refine j7_read hx hb hown hK (C := RX10) (T := TX10) (N := 11) rfl hly_12_7 hlk_86 (hh_14.at 1 rfl) dX10_isName_46 ?_
      refine lv_iconst (v := 1) hx hb dX10_isName_49 (by decide) ?_
      refine lv_iadd hx hb dX10_isName_50 ?_
      refine lv_topi (fun z_15 ez_15 => ?_)
      have hz_15 : z_15.toInt = toldCount_8.toInt + 1 := by rw [ez_15]; exact jb_iadd2 (rfl) ((by decide)) (by omega)
      refine j7_put hx hb hown hK hh_14 hB hAp hB12 (C := RX10) (T := TX10) (N := 11) rfl (by decide) hg_r0 (i := 7) (by decide) hly_12_7 rfl hlk_86 rfl (ty := .int) (v := .int z_15) (by decide +kernel) rfl rfl (⟨_, rfl, by omega, by omega⟩) rfl (L1 := [(r0, 12, 6, .ref told_11), (r0, 12, 4, .int z_3), (r0, 12, 3, .int tk)]) [0, 2, 3] rfl rfl rfl dX10_isName_51 (fun H_16 locs_16 hh_16 => ?_)
      clear hh_14
      refine lv_iconst (v := 1) hx hb dX10_isName_54 (by decide) ?_
      rw [hQ]
      exact W.zret (v := 1) hx hb hr (jb_nz (Or.inr rfl)) (fun t ht hW => ⟨⟨1, z_3, rfl, ⟨(Or.inr rfl), by first | omega | (refine ⟨?_, ?_⟩ <;> (first | omega | rfl | assumption | decide | exact Or.inl rfl | exact Or.inr rfl | (simp only; omega)))⟩, hh_16.rt (M1 := [(r0, 12, 4, .int z_3)]) [2] rfl ht⟩, by rw [ht]; try exact hh_16.1.1, fun q h9 hq => by rw [ht]; try exact hh_16.1.2.1 q h9 hq⟩) hh_16.1.2.2 dX10_isName_55
    · skip
      have c_13' : toldCount_8.toInt ≥ z_12.toInt := jb_lt_n (rfl) (rfl) c_13
      refine lv_iconst (v := 0) hx hb dX10_isName_32 (by decide) ?_
      rw [hQ]
      exact W.zret (v := 0) hx hb hr (jb_nz (Or.inl rfl)) (fun t ht hW => ⟨⟨0, z_3, rfl, ⟨(Or.inl rfl), by first | omega | (refine ⟨?_, ?_⟩ <;> (first | omega | rfl | assumption | decide | exact Or.inl rfl | exact Or.inr rfl | (simp only; omega)))⟩, hh_10.rt (M1 := [(r0, 12, 4, .int z_3)]) [2] rfl ht⟩, by rw [ht]; try exact hh_10.1.1, fun q h9 hq => by rw [ht]; try exact hh_10.1.2.1 q h9 hq⟩) hh_10.1.2.2 dX10_isName_33
set_option maxHeartbeats 4000000 in
set_option maxRecDepth 20000 in
theorem uX10_isArityB (l : Launch) (dC : Nat → ClassId) (dI : Nat → Nat → Nat) (ca : Nat → ClassId) (base : Nat) (B : jF) (hB : jBok B) (hAp : jAp (dC, dI)) (hB12 : ∀ n G a H, B 12 n G a H ↔ jOb (dC, dI) 12 11 (F12b n G) a H) (hB101 : ∀ n G a H, B 101 n G a H ↔ jAr (dC, dI) (ca 1) (fun j z => True) n a H) (hB293 : ∀ n G a H, B 293 n G a H ↔ jAr (dC, dI) (ca 1) (fun j z => -1 ≤ z.toInt ∧ z.toInt ≤ 8191) n a H) (G0 : jT) (H0 : Heap) (r0 : Nat) (tk : Int32) (pa : Int32) : Met l yX10_isArity (jw yX10_isArity cX10_isArity 1 (some .boolean)) ({ frames := 1, cells := 0, slots := 0, locals := 20 }) (va_Pc [.ref r0] (fun U => U.heap = H0 ∧ jX B base G0 [] H0 ∧ jG dC dI ca base U ∧ G0 r0 = some (12, 0) ∧ jP (dC, dI) G0 H0 [(r0, 12, 3, .int tk), (r0, 12, 4, .int pa)] ∧ 0 ≤ tk.toInt ∧ tk.toInt ≤ 1500 ∧ 0 ≤ pa.toInt ∧ pa.toInt ≤ 1503 ∧ pa.toInt ≤ tk.toInt + 2)) (va_Qi (S := Int32) (fun r u => (r = 0 ∨ r = 1) ∧ (u.toInt = pa.toInt + 1 ∧ (r.toInt = 0 ∨ pa.toInt < tk.toInt))) (fun u t => jRt (dC, dI) B base G0 EX10_isArityB H0 [(r0, 12, 4, .int u)] t.heap) (jA base)) 0 0 (jA base) := by
  refine Met.ofW (cc := cX10_isArity) (maxL := 1) (ret := (some .boolean)) (by decide) rfl ?_
  intro p e s m args below meth c s₁ Bd hml hv
  obtain ⟨rfl, hH0, hX, hG, hg_r0, hP0, hp0, hp1, hp2, hp3, hp4⟩ := hv
  have hK := hG.1
  have hx := Bd.exec
  have hb := Bd.bytes
  have hr := Bd.returns
  have hts := atoms_spec (ws := (jw yX10_isArity cX10_isArity 1 (some .boolean))) Bd.pre
  have htw : ∀ w ∈ jWl, w.before _ s = true := fun w h => hts w (List.mem_cons_of_mem _ h)
  have hown : s.vm.findClass RX10 = some m.cls := findClass_of_methodNamed Bd.named
  have hlocks := Bd.notSynchronized
  obtain ⟨Q, hQ⟩ : ∃ Q, Q = MQ below (va_Qi (S := Int32) (fun r u => (r = 0 ∨ r = 1) ∧ (u.toInt = pa.toInt + 1 ∧ (r.toInt = 0 ∨ pa.toInt < tk.toInt))) (fun u t => jRt (dC, dI) B base G0 EX10_isArityB H0 [(r0, 12, 4, .int u)] t.heap) (jA base)) ([.ref r0] : List Value).toArray s 0 0 (jA base) := ⟨_, rfl⟩
  rw [← hQ]
  have hl := lv_entry ([.ref r0]) (n := 1) (Nat.le_of_ble_eq_true rfl)
  rw [lg_entry_eq]
  generalize (lg_sl ([.ref r0]) ++ List.replicate (1 - (lg_sl ([.ref r0])).length) Slot.unset).toArray = ls at hl ⊢
  have hl : lv_has ls 1 [(0, .ref r0)] := hl
  generalize hR : (headSpec (jw yX10_isArity cX10_isArity 1 (some .boolean)) ({ frames := 1, cells := 0, slots := 0, locals := 20 })).room = R
  subst hH0
  have hh : jSt (dC, dI) B base G0 G0 EX10_isArityB s.heap 0 0 [(r0, 12, 3, .int tk), (r0, 12, 4, .int pa)] [] [] s.heap [] := jSt.start hX hP0 jMc.nil jIs.nil
  clear hX hP0
  have hkm1 : ((-1) : Int32).toInt = (-1) := by decide
  have hk0 : (0 : Int32).toInt = 0 := by decide
  have hk1 : (1 : Int32).toInt = 1 := by decide
  have hk3 : (3 : Int32).toInt = 3 := by decide
  have hk100 : (100 : Int32).toInt = 100 := by decide
  have hly_12_2 := htw (u_lay RX10 TX10 2) (jWc_wsX100 _ (u_in_lay (by decide)))
  have hly_12_4 := htw (u_lay RX10 TX10 4) (jWc_wsX100 _ (u_in_lay (by decide)))
  have hly_12_8 := htw (u_lay RX10 TX10 8) (jWc_wsX100 _ (u_in_lay (by decide)))
  have hlk_15 := (htw (.fieldLink RX10 15 "ProofServer$Syntax" "values" "[I") (jWr_8 _ (List.mem_of_getElem? (i := 9) rfl)))
  have hlk_83 := (htw (.fieldLink RX10 83 "ProofServer$Syntax" "at" "I") (jWr_79 _ (List.mem_of_getElem? (i := 5) rfl)))
  have hlk_92 := (htw (.fieldLink RX10 92 "ProofServer$Syntax" "terms" "I") (jWr_79 _ (List.mem_of_getElem? (i := 8) rfl)))
  refine lv_aload_n hx hb dX10_isArity_0 rfl (lv_at hl 0 rfl) ?_
  refine lv_aload_n hx hb dX10_isArity_1 rfl (lv_at hl 0 rfl) ?_
  refine va_calli (A0 := jA base) (H0 := s.heap) (va_runV (As := []) (rest := [.ref r0]) ⟨hx, hb, hml, hown, hts⟩ (uX10_peekB l dC dI ca base B hB hAp hB12 hB101 G0 s.heap r0 tk pa) (cwV 0 hts (jgV (jWr_79 _ (List.mem_of_getElem? (i := 18) rfl)) (jWr_79 _ (List.mem_of_getElem? (i := 19) rfl)) (jWr_79 _ (List.mem_of_getElem? (i := 20) rfl)) (jWr_4 _ (List.mem_of_getElem? (i := 14) rfl)) (jWr_79 _ (List.mem_of_getElem? (i := 21) rfl))) rfl rfl rfl (by decide +kernel) ⟨by rw [← hR]; exact Nat.le_of_ble_eq_true rfl, by rw [← hR]; exact Nat.le_of_ble_eq_true rfl⟩) ⟨fun a U g mk q => by obtain ⟨q0, q1, q2, qK, q10, q11, q12⟩ := q; exact ⟨q0, q1, q2, jG.calling g mk a qK, q10, q11, q12⟩, hh.recv (C := RX10) (T := TX10) (N := 11) hB12 rfl (by decide) hg_r0 hK, fun U hU hW => ⟨rfl, hU, hh.2.1, hG.step hW hU hh.1, hg_r0, (hh.2.2.1.sub (L1 := [(r0, 12, 3, .int tk), (r0, 12, 4, .int pa)]) [0, 1] rfl), by first | omega | (refine ⟨?_, ?_, ?_, ?_⟩ <;> (first | omega | rfl | assumption | decide | exact Or.inl rfl | exact Or.inr rfl | (simp only; omega)))⟩⟩ rfl rfl hl.1 rfl (lv_room (Nat.le_of_ble_eq_true rfl)) dX10_isArity_2 ⟨Nat.zero_le _, Nat.zero_le _⟩) hh.1 (fun q _ h => h) (fun q h => h) (fun r_2 u_1 t_1 H_1 locs_1 ht_1 hvm_1 hr_2 hb_1 hz_1 hk_1 hS_1 => ?_)
  rw [ht_1] at hb_1
  obtain ⟨hb_11, hb_12, hb_13, hb_14, hb_15⟩ := hb_1
  have hh_1 : jSt (dC, dI) B base G0 G0 EX10_isArityB s.heap 0 0 [(r0, 12, 3, .int tk), (r0, 12, 4, .int pa)] [] [] H_1 locs_1 := ((hh.call hb_11 hb_12 hb_13 hb_14 hS_1 rfl (L1 := [(r0, 12, 3, .int tk), (r0, 12, 4, .int pa)]) [0, 1] rfl rfl (M1 := []) [] rfl rfl (I1 := []) [] rfl rfl).more hb_15)
  clear hh ht_1 hvm_1 hz_1 hk_1 hS_1 hb_11 hb_12 hb_13 hb_14 hb_15
  refine lv_bipush (v := 100) hx hb dX10_isArity_5 (by decide) ?_
  refine lv_icmp_ne (tgt := 22) hx hb dX10_isArity_7 (by decide) (fun c_3 => ?_) (fun c_3 => ?_)
  · skip
    have c_3' : r_2.toInt ≠ 100 := jb_ne (rfl) ((by decide)) c_3
    try clear hr_2
    refine lv_iconst (v := (-1)) hx hb dX10_isArity_22 (by decide) ?_
    refine j7_put hx hb hown hK hh_1 hB hAp hB12 (C := RX10) (T := TX10) (N := 11) rfl (by decide) hg_r0 (i := 8) (by decide) hly_12_8 rfl hlk_92 rfl (ty := .int) (v := .int (-1)) (by decide +kernel) rfl rfl (⟨_, rfl⟩) rfl (L1 := [(r0, 12, 3, .int tk), (r0, 12, 4, .int pa)]) [0, 1] rfl rfl rfl dX10_isArity_23 (fun H_4 locs_4 hh_4 => ?_)
    clear hh_1
    refine lv_aload_n hx hb dX10_isArity_26 rfl (lv_at hl 0 rfl) ?_
    refine lv_dup hx hb dX10_isArity_27 rfl ?_
    refine j7_read hx hb hown hK (C := RX10) (T := TX10) (N := 11) rfl hly_12_4 hlk_83 (hh_4.at 2 rfl) dX10_isArity_28 ?_
    refine lv_iconst (v := 1) hx hb dX10_isArity_31 (by decide) ?_
    refine lv_iadd hx hb dX10_isArity_32 ?_
    refine lv_topi (fun z_5 ez_5 => ?_)
    have hz_5 : z_5.toInt = pa.toInt + 1 := by rw [ez_5]; exact jb_iadd2 (rfl) ((by decide)) (by omega)
    refine j7_put hx hb hown hK hh_4 hB hAp hB12 (C := RX10) (T := TX10) (N := 11) rfl (by decide) hg_r0 (i := 4) (by decide) hly_12_4 rfl hlk_83 rfl (ty := .int) (v := .int z_5) (by decide +kernel) rfl rfl (⟨_, rfl, by omega, by omega⟩) rfl (L1 := [(r0, 12, 8, .int (-1)), (r0, 12, 3, .int tk)]) [0, 1] rfl rfl rfl dX10_isArity_33 (fun H_6 locs_6 hh_6 => ?_)
    clear hh_4
    refine lv_aload_n hx hb dX10_isArity_36 rfl (lv_at hl 0 rfl) ?_
    refine j7_read hx hb hown hK (C := RX10) (T := TX10) (N := 11) rfl hly_12_8 hlk_92 (hh_6.at 1 rfl) dX10_isArity_37 ?_
    refine lv_if_lt (tgt := 55) hx hb dX10_isArity_40 (by decide) (fun c_7 => ?_) (fun c_7 => ?_)
    · skip
      refine lv_iconst (v := 0) hx hb dX10_isArity_55 (by decide) ?_
      rw [hQ]
      exact W.zret (v := 0) hx hb hr (jb_nz (Or.inl rfl)) (fun t ht hW => ⟨⟨0, z_5, rfl, ⟨(Or.inl rfl), by first | omega | (refine ⟨?_, ?_⟩ <;> (first | omega | rfl | assumption | decide | exact Or.inl rfl | exact Or.inr rfl | (simp only; omega)))⟩, hh_6.rt (M1 := [(r0, 12, 4, .int z_5)]) [0] rfl ht⟩, by rw [ht]; try exact hh_6.1.1, fun q h9 hq => by rw [ht]; try exact hh_6.1.2.1 q h9 hq⟩) hh_6.1.2.2 dX10_isArity_56
    · skip
      exact absurd c_7 (by decide)
  · skip
    have c_3' : r_2.toInt = 100 := jb_ne_n (rfl) ((by decide)) c_3
    first | (have hr_2q := hr_2.resolve_left (by omega); clear hr_2) | (have hr_2q := hr_2.resolve_right (by omega); clear hr_2) | try clear hr_2
    refine lv_aload_n hx hb dX10_isArity_10 rfl (lv_at hl 0 rfl) ?_
    obtain ⟨v_8, hv_8, hh_9⟩ := hh_1.pin (C := RX10) (T := TX10) (N := 11) hB12 rfl (by decide) hg_r0 (i := 2) (by decide) rfl
    clear hh_1
    obtain ⟨values_10, rfl, hg_values_10⟩ := hv_8
    refine j7_read hx hb hown hK (C := RX10) (T := TX10) (N := 11) rfl hly_12_2 hlk_15 (hh_9.at 0 rfl) dX10_isArity_11 ?_
    refine lv_aload_n hx hb dX10_isArity_14 rfl (lv_at hl 0 rfl) ?_
    refine j7_read hx hb hown hK (C := RX10) (T := TX10) (N := 11) rfl hly_12_4 hlk_83 (hh_9.at 2 rfl) dX10_isArity_15 ?_
    refine j7_iald hx hb hK hh_9 hB293 1 rfl (by decide) hg_values_10 (x := pa.toInt) (rfl) (by omega) dX10_isArity_18 (fun z_11 (hz_11 : -1 ≤ z_11.toInt ∧ z_11.toInt ≤ 8191) => ?_)
    refine lv_goto (tgt := 23) hx hb dX10_isArity_19 (by decide) ?_
    refine j7_put hx hb hown hK hh_9 hB hAp hB12 (C := RX10) (T := TX10) (N := 11) rfl (by decide) hg_r0 (i := 8) (by decide) hly_12_8 rfl hlk_92 rfl (ty := .int) (v := .int z_11) (by decide +kernel) rfl rfl (⟨_, rfl⟩) rfl (L1 := [(r0, 12, 2, .ref values_10), (r0, 12, 3, .int tk), (r0, 12, 4, .int pa)]) [0, 1, 2] rfl rfl rfl dX10_isArity_23 (fun H_12 locs_12 hh_12 => ?_)
    clear hh_9
    refine lv_aload_n hx hb dX10_isArity_26 rfl (lv_at hl 0 rfl) ?_
    refine lv_dup hx hb dX10_isArity_27 rfl ?_
    refine j7_read hx hb hown hK (C := RX10) (T := TX10) (N := 11) rfl hly_12_4 hlk_83 (hh_12.at 3 rfl) dX10_isArity_28 ?_
    refine lv_iconst (v := 1) hx hb dX10_isArity_31 (by decide) ?_
    refine lv_iadd hx hb dX10_isArity_32 ?_
    refine lv_topi (fun z_13 ez_13 => ?_)
    have hz_13 : z_13.toInt = pa.toInt + 1 := by rw [ez_13]; exact jb_iadd2 (rfl) ((by decide)) (by omega)
    refine j7_put hx hb hown hK hh_12 hB hAp hB12 (C := RX10) (T := TX10) (N := 11) rfl (by decide) hg_r0 (i := 4) (by decide) hly_12_4 rfl hlk_83 rfl (ty := .int) (v := .int z_13) (by decide +kernel) rfl rfl (⟨_, rfl, by omega, by omega⟩) rfl (L1 := [(r0, 12, 8, .int z_11), (r0, 12, 2, .ref values_10), (r0, 12, 3, .int tk)]) [0, 1, 2] rfl rfl rfl dX10_isArity_33 (fun H_14 locs_14 hh_14 => ?_)
    clear hh_12
    refine lv_aload_n hx hb dX10_isArity_36 rfl (lv_at hl 0 rfl) ?_
    refine j7_read hx hb hown hK (C := RX10) (T := TX10) (N := 11) rfl hly_12_8 hlk_92 (hh_14.at 1 rfl) dX10_isArity_37 ?_
    refine lv_if_lt (tgt := 55) hx hb dX10_isArity_40 (by decide) (fun c_15 => ?_) (fun c_15 => ?_)
    · skip
      have c_15' : z_11.toInt < 0 := jb_lt (rfl) ((by decide)) c_15
      refine lv_iconst (v := 0) hx hb dX10_isArity_55 (by decide) ?_
      rw [hQ]
      exact W.zret (v := 0) hx hb hr (jb_nz (Or.inl rfl)) (fun t ht hW => ⟨⟨0, z_13, rfl, ⟨(Or.inl rfl), by first | omega | (refine ⟨?_, ?_⟩ <;> (first | omega | rfl | assumption | decide | exact Or.inl rfl | exact Or.inr rfl | (simp only; omega)))⟩, hh_14.rt (M1 := [(r0, 12, 4, .int z_13)]) [0] rfl ht⟩, by rw [ht]; try exact hh_14.1.1, fun q h9 hq => by rw [ht]; try exact hh_14.1.2.1 q h9 hq⟩) hh_14.1.2.2 dX10_isArity_56
    · skip
      have c_15' : z_11.toInt ≥ 0 := jb_lt_n (rfl) ((by decide)) c_15
      refine lv_aload_n hx hb dX10_isArity_43 rfl (lv_at hl 0 rfl) ?_
      refine j7_read hx hb hown hK (C := RX10) (T := TX10) (N := 11) rfl hly_12_8 hlk_92 (hh_14.at 1 rfl) dX10_isArity_44 ?_
      refine lv_iconst (v := 3) hx hb dX10_isArity_47 (by decide) ?_
      refine lv_icmp_gt (tgt := 55) hx hb dX10_isArity_48 (by decide) (fun c_16 => ?_) (fun c_16 => ?_)
      · skip
        have c_16' : z_11.toInt > 3 := jb_gt (rfl) ((by decide)) c_16
        refine lv_iconst (v := 0) hx hb dX10_isArity_55 (by decide) ?_
        rw [hQ]
        exact W.zret (v := 0) hx hb hr (jb_nz (Or.inl rfl)) (fun t ht hW => ⟨⟨0, z_13, rfl, ⟨(Or.inl rfl), by first | omega | (refine ⟨?_, ?_⟩ <;> (first | omega | rfl | assumption | decide | exact Or.inl rfl | exact Or.inr rfl | (simp only; omega)))⟩, hh_14.rt (M1 := [(r0, 12, 4, .int z_13)]) [0] rfl ht⟩, by rw [ht]; try exact hh_14.1.1, fun q h9 hq => by rw [ht]; try exact hh_14.1.2.1 q h9 hq⟩) hh_14.1.2.2 dX10_isArity_56
      · skip
        have c_16' : z_11.toInt ≤ 3 := jb_gt_n (rfl) ((by decide)) c_16
        refine lv_iconst (v := 1) hx hb dX10_isArity_51 (by decide) ?_
        refine lv_goto (tgt := 56) hx hb dX10_isArity_52 (by decide) ?_
        rw [hQ]
        exact W.zret (v := 1) hx hb hr (jb_nz (Or.inr rfl)) (fun t ht hW => ⟨⟨1, z_13, rfl, ⟨(Or.inr rfl), by first | omega | (refine ⟨?_, ?_⟩ <;> (first | omega | rfl | assumption | decide | exact Or.inl rfl | exact Or.inr rfl | (simp only; omega)))⟩, hh_14.rt (M1 := [(r0, 12, 4, .int z_13)]) [0] rfl ht⟩, by rw [ht]; try exact hh_14.1.1, fun q h9 hq => by rw [ht]; try exact hh_14.1.2.1 q h9 hq⟩) hh_14.1.2.2 dX10_isArity_56
set_option maxHeartbeats 4000000 in
set_option maxRecDepth 20000 in
theorem uX10_addNodeB (l : Launch) (dC : Nat → ClassId) (dI : Nat → Nat → Nat) (ca : Nat → ClassId) (base : Nat) (B : jF) (hB : jBok B) (hAp : jAp (dC, dI)) (hB12 : ∀ n G a H, B 12 n G a H ↔ jOb (dC, dI) 12 11 (F12b n G) a H) (hB280 : ∀ n G a H, B 280 n G a H ↔ jAr (dC, dI) (ca 1) (fun j z => -1 ≤ z.toInt) n a H) (G0 : jT) (H0 : Heap) (r0 : Nat) (a1 : Int32) (nc : Int32) (zv : Nat) (fn : Nat → Int32) : Met l yX10_addNode (jw yX10_addNode cX10_addNode 2 (some .boolean)) ({ frames := 0, cells := 0, slots := 0, locals := 0 }) (va_Pc [.ref r0, .int a1] (fun U => U.heap = H0 ∧ jX B base G0 [] H0 ∧ jG dC dI ca base U ∧ G0 r0 = some (12, 0) ∧ G0 zv = some (280, 3000) ∧ jP (dC, dI) G0 H0 [(r0, 12, 10, .int nc), (r0, 12, 9, .ref zv)] ∧ jMc (dC, dI) G0 H0 [(zv, 280, 3000, ca 1, fn)] ∧ 0 ≤ nc.toInt ∧ nc.toInt ≤ 3000 ∧ -1 ≤ a1.toInt)) (va_Qi (S := Int32 × (Nat → Int32)) (fun r u => (r = 0 ∨ r = 1) ∧ (((r.toInt = 0 ∧ u.1.toInt = nc.toInt) ∨ (u.1.toInt = nc.toInt + 1 ∧ r.toInt = 1)) ∧ u.1.toInt ≤ 3000 ∧ jKb fn u.2 nc.toInt ∧ (r.toInt = 0 ∨ jSo u.2 nc.toInt = a1.toInt))) (fun u t => jRt (dC, dI) B base G0 EX10_addNodeB H0 [(r0, 12, 10, .int u.1)] t.heap ∧ jMc (dC, dI) G0 t.heap [(zv, 280, 3000, ca 1, u.2)]) (jA base)) 0 0 (jA base) := by
  refine Met.ofW (cc := cX10_addNode) (maxL := 2) (ret := (some .boolean)) (by decide) rfl ?_
  intro p e s m args below meth c s₁ Bd hml hv
  obtain ⟨rfl, hH0, hX, hG, hg_r0, hg_zv, hP0, hM0, hp0, hp1, hp2⟩ := hv
  have hK := hG.1
  have hx := Bd.exec
  have hb := Bd.bytes
  have hr := Bd.returns
  have hts := atoms_spec (ws := (jw yX10_addNode cX10_addNode 2 (some .boolean))) Bd.pre
  have htw : ∀ w ∈ jWl, w.before _ s = true := fun w h => hts w (List.mem_cons_of_mem _ h)
  have hown : s.vm.findClass RX10 = some m.cls := findClass_of_methodNamed Bd.named
  have hlocks := Bd.notSynchronized
  obtain ⟨Q, hQ⟩ : ∃ Q, Q = MQ below (va_Qi (S := Int32 × (Nat → Int32)) (fun r u => (r = 0 ∨ r = 1) ∧ (((r.toInt = 0 ∧ u.1.toInt = nc.toInt) ∨ (u.1.toInt = nc.toInt + 1 ∧ r.toInt = 1)) ∧ u.1.toInt ≤ 3000 ∧ jKb fn u.2 nc.toInt ∧ (r.toInt = 0 ∨ jSo u.2 nc.toInt = a1.toInt))) (fun u t => jRt (dC, dI) B base G0 EX10_addNodeB H0 [(r0, 12, 10, .int u.1)] t.heap ∧ jMc (dC, dI) G0 t.heap [(zv, 280, 3000, ca 1, u.2)]) (jA base)) ([.ref r0, .int a1] : List Value).toArray s 0 0 (jA base) := ⟨_, rfl⟩
  rw [← hQ]
  have hl := lv_entry ([.ref r0, .int a1]) (n := 2) (Nat.le_of_ble_eq_true rfl)
  rw [lg_entry_eq]
  generalize (lg_sl ([.ref r0, .int a1]) ++ List.replicate (2 - (lg_sl ([.ref r0, .int a1])).length) Slot.unset).toArray = ls at hl ⊢
  have hl : lv_has ls 2 [(0, .ref r0), (1, .int a1)] := hl
  generalize hR : (headSpec (jw yX10_addNode cX10_addNode 2 (some .boolean)) ({ frames := 0, cells := 0, slots := 0, locals := 0 })).room = R
  subst hH0
  have hh : jSt (dC, dI) B base G0 G0 EX10_addNodeB s.heap 0 0 [(r0, 12, 10, .int nc), (r0, 12, 9, .ref zv)] [(zv, 280, 3000, ca 1, fn)] [] s.heap [] := jSt.start hX hP0 hM0 jIs.nil
  clear hX hP0
  have hk0 : (0 : Int32).toInt = 0 := by decide
  have hk1 : (1 : Int32).toInt = 1 := by decide
  have hk3000 : (3000 : Int32).toInt = 3000 := by decide
  have hly_12_9 := htw (u_lay RX10 TX10 9) (jWc_wsX100 _ (u_in_lay (by decide)))
  have hly_12_10 := htw (u_lay RX10 TX10 10) (jWc_wsX100 _ (u_in_lay (by decide)))
  have hlk_89 := (htw (.fieldLink RX10 89 "ProofServer$Syntax" "nodeCount" "I") (jWr_79 _ (List.mem_of_getElem? (i := 7) rfl)))
  have hlk_21 := (htw (.fieldLink RX10 21 "ProofServer$Syntax" "nodes" "[I") (jWr_8 _ (List.mem_of_getElem? (i := 11) rfl)))
  have hrg_a1 := jb_rng a1
  refine lv_aload_n hx hb dX10_addNode_0 rfl (lv_at hl 0 rfl) ?_
  refine j7_read hx hb hown hK (C := RX10) (T := TX10) (N := 11) rfl hly_12_10 hlk_89 (hh.at 0 rfl) dX10_addNode_1 ?_
  refine lv_sipush (v := 3000) hx hb dX10_addNode_4 (by decide) ?_
  refine lv_icmp_lt (tgt := 12) hx hb dX10_addNode_7 (by decide) (fun c_1 => ?_) (fun c_1 => ?_)
  · skip
    have c_1' : nc.toInt < 3000 := jb_lt (rfl) ((by decide)) c_1
    refine lv_aload_n hx hb dX10_addNode_12 rfl (lv_at hl 0 rfl) ?_
    refine j7_read hx hb hown hK (C := RX10) (T := TX10) (N := 11) rfl hly_12_9 hlk_21 (hh.at 1 rfl) dX10_addNode_13 ?_
    refine lv_aload_n hx hb dX10_addNode_16 rfl (lv_at hl 0 rfl) ?_
    refine j7_read hx hb hown hK (C := RX10) (T := TX10) (N := 11) rfl hly_12_10 hlk_89 (hh.at 0 rfl) dX10_addNode_17 ?_
    refine lv_iload_n hx hb dX10_addNode_20 rfl (lv_at hl 1 rfl) ?_
    refine j7_iastU hx hb hK hh hB hB280 1 rfl (by decide) (by decide) rfl 0 rfl (M1 := []) [] rfl rfl rfl hg_zv (x := nc.toInt) (rfl) (by omega) (by first | omega | rfl | assumption | decide | exact Or.inl rfl | exact Or.inr rfl | (simp only; omega)) dX10_addNode_21 (fun H_2 locs_2 fs_3 hv_2 ho_2 hh_2 => ?_)
    have hv_2 : jSo fs_3 (nc.toInt) = a1.toInt := by unfold jSo; rw [hv_2]; try exact rfl
    clear hh
    refine lv_aload_n hx hb dX10_addNode_22 rfl (lv_at hl 0 rfl) ?_
    refine lv_dup hx hb dX10_addNode_23 rfl ?_
    refine j7_read hx hb hown hK (C := RX10) (T := TX10) (N := 11) rfl hly_12_10 hlk_89 (hh_2.at 0 rfl) dX10_addNode_24 ?_
    refine lv_iconst (v := 1) hx hb dX10_addNode_27 (by decide) ?_
    refine lv_iadd hx hb dX10_addNode_28 ?_
    refine lv_topi (fun z_4 ez_4 => ?_)
    have hz_4 : z_4.toInt = nc.toInt + 1 := by rw [ez_4]; exact jb_iadd2 (rfl) ((by decide)) (by omega)
    refine j7_put hx hb hown hK hh_2 hB hAp hB12 (C := RX10) (T := TX10) (N := 11) rfl (by decide) hg_r0 (i := 10) (by decide) hly_12_10 rfl hlk_89 rfl (ty := .int) (v := .int z_4) (by decide +kernel) rfl rfl (⟨_, rfl, by omega, by omega⟩) rfl (L1 := [(r0, 12, 9, .ref zv)]) [1] rfl rfl rfl dX10_addNode_29 (fun H_5 locs_5 hh_5 => ?_)
    clear hh_2
    refine lv_iconst (v := 1) hx hb dX10_addNode_32 (by decide) ?_
    rw [hQ]
    exact W.zret (v := 1) hx hb hr (jb_nz (Or.inr rfl)) (fun t ht hW => ⟨⟨1, (z_4, fs_3), rfl, ⟨(Or.inr rfl), by (try dsimp only); exact ⟨by omega, by omega, jKb.put (by omega) (by omega) (by omega) ho_2, Or.inr hv_2⟩⟩, ⟨hh_5.rt (M1 := [(r0, 12, 10, .int z_4)]) [0] rfl ht, by rw [ht]; exact hh_5.2.2.2.2.2.2.2.1.sub [0] rfl⟩⟩, by rw [ht]; try exact hh_5.1.1, fun q h9 hq => by rw [ht]; try exact hh_5.1.2.1 q h9 hq⟩) hh_5.1.2.2 dX10_addNode_33
  · skip
    have c_1' : nc.toInt ≥ 3000 := jb_lt_n (rfl) ((by decide)) c_1
    refine lv_iconst (v := 0) hx hb dX10_addNode_10 (by decide) ?_
    rw [hQ]
    exact W.zret (v := 0) hx hb hr (jb_nz (Or.inl rfl)) (fun t ht hW => ⟨⟨0, (nc, fn), rfl, ⟨(Or.inl rfl), by (try dsimp only); exact ⟨by omega, by omega, jKb.rf, by omega⟩⟩, ⟨hh.rt (M1 := [(r0, 12, 10, .int nc)]) [0] rfl ht, by rw [ht]; exact hh.2.2.2.2.2.2.2.1.sub [0] rfl⟩⟩, by rw [ht]; try exact hh.1.1, fun q h9 hq => by rw [ht]; try exact hh.1.2.1 q h9 hq⟩) hh.1.2.2 dX10_addNode_11
set_option maxHeartbeats 4000000 in
set_option maxRecDepth 20000 in
theorem uX10_insertNodeB (l : Launch) (dC : Nat → ClassId) (dI : Nat → Nat → Nat) (ca : Nat → ClassId) (base : Nat) (B : jF) (hB : jBok B) (hAp : jAp (dC, dI)) (hB12 : ∀ n G a H, B 12 n G a H ↔ jOb (dC, dI) 12 11 (F12b n G) a H) (hB280 : ∀ n G a H, B 280 n G a H ↔ jAr (dC, dI) (ca 1) (fun j z => -1 ≤ z.toInt) n a H) (G0 : jT) (H0 : Heap) (r0 : Nat) (a1 : Int32) (a2 : Int32) (nc : Int32) : Met l yX10_insertNode (jw yX10_insertNode cX10_insertNode 4 (some .boolean)) ({ frames := 0, cells := 0, slots := 0, locals := 0 }) (va_Pc [.ref r0, .int a1, .int a2] (fun U => U.heap = H0 ∧ jX B base G0 [] H0 ∧ jG dC dI ca base U ∧ G0 r0 = some (12, 0) ∧ jP (dC, dI) G0 H0 [(r0, 12, 10, .int nc)] ∧ 0 ≤ nc.toInt ∧ nc.toInt ≤ 3000 ∧ -1 ≤ a2.toInt)) (va_Qi (S := Int32) (fun r u => (r = 0 ∨ r = 1) ∧ (((r.toInt = 0 ∧ u.toInt = nc.toInt) ∨ u.toInt = nc.toInt + 1) ∧ u.toInt ≤ 3000)) (fun u t => jRt (dC, dI) B base G0 EX10_insertNodeB H0 [(r0, 12, 10, .int u)] t.heap) (jA base)) 0 0 (jA base) := by
  refine Met.ofW (cc := cX10_insertNode) (maxL := 4) (ret := (some .boolean)) (by decide) rfl ?_
  intro p e s m args below meth c s₁ Bd hml hv
  obtain ⟨rfl, hH0, hX, hG, hg_r0, hP0, hp0, hp1, hp2⟩ := hv
  have hK := hG.1
  have hx := Bd.exec
  have hb := Bd.bytes
  have hr := Bd.returns
  have hts := atoms_spec (ws := (jw yX10_insertNode cX10_insertNode 4 (some .boolean))) Bd.pre
  have htw : ∀ w ∈ jWl, w.before _ s = true := fun w h => hts w (List.mem_cons_of_mem _ h)
  have hown : s.vm.findClass RX10 = some m.cls := findClass_of_methodNamed Bd.named
  have hlocks := Bd.notSynchronized
  obtain ⟨Q, hQ⟩ : ∃ Q, Q = MQ below (va_Qi (S := Int32) (fun r u => (r = 0 ∨ r = 1) ∧ (((r.toInt = 0 ∧ u.toInt = nc.toInt) ∨ u.toInt = nc.toInt + 1) ∧ u.toInt ≤ 3000)) (fun u t => jRt (dC, dI) B base G0 EX10_insertNodeB H0 [(r0, 12, 10, .int u)] t.heap) (jA base)) ([.ref r0, .int a1, .int a2] : List Value).toArray s 0 0 (jA base) := ⟨_, rfl⟩
  rw [← hQ]
  have hl := lv_entry ([.ref r0, .int a1, .int a2]) (n := 4) (Nat.le_of_ble_eq_true rfl)
  rw [lg_entry_eq]
  generalize (lg_sl ([.ref r0, .int a1, .int a2]) ++ List.replicate (4 - (lg_sl ([.ref r0, .int a1, .int a2])).length) Slot.unset).toArray = ls at hl ⊢
  have hl : lv_has ls 4 [(0, .ref r0), (1, .int a1), (2, .int a2)] := hl
  generalize hR : (headSpec (jw yX10_insertNode cX10_insertNode 4 (some .boolean)) ({ frames := 0, cells := 0, slots := 0, locals := 0 })).room = R
  subst hH0
  have hh : jSt (dC, dI) B base G0 G0 EX10_insertNodeB s.heap 0 0 [(r0, 12, 10, .int nc)] [] [] s.heap [] := jSt.start hX hP0 jMc.nil jIs.nil
  clear hX hP0
  have hk0 : (0 : Int32).toInt = 0 := by decide
  have hk1 : (1 : Int32).toInt = 1 := by decide
  have hk3000 : (3000 : Int32).toInt = 3000 := by decide
  have hly_12_9 := htw (u_lay RX10 TX10 9) (jWc_wsX100 _ (u_in_lay (by decide)))
  have hly_12_10 := htw (u_lay RX10 TX10 10) (jWc_wsX100 _ (u_in_lay (by decide)))
  have hlk_89 := (htw (.fieldLink RX10 89 "ProofServer$Syntax" "nodeCount" "I") (jWr_79 _ (List.mem_of_getElem? (i := 7) rfl)))
  have hlk_21 := (htw (.fieldLink RX10 21 "ProofServer$Syntax" "nodes" "[I") (jWr_8 _ (List.mem_of_getElem? (i := 11) rfl)))
  have hrg_a1 := jb_rng a1
  have hrg_a2 := jb_rng a2
  refine lv_iload_n hx hb dX10_insertNode_0 rfl (lv_at hl 1 rfl) ?_
  refine lv_if_lt (tgt := 22) hx hb dX10_insertNode_1 (by decide) (fun c_1 => ?_) (fun c_1 => ?_)
  · skip
    have c_1' : a1.toInt < 0 := jb_lt (rfl) ((by decide)) c_1
    refine lv_iconst (v := 0) hx hb dX10_insertNode_22 (by decide) ?_
    rw [hQ]
    exact W.zret (v := 0) hx hb hr (jb_nz (Or.inl rfl)) (fun t ht hW => ⟨⟨0, nc, rfl, ⟨(Or.inl rfl), by first | omega | (refine ⟨?_, ?_⟩ <;> (first | omega | rfl | assumption | decide | exact Or.inl rfl | exact Or.inr rfl | (simp only; omega)))⟩, hh.rt (M1 := [(r0, 12, 10, .int nc)]) [0] rfl ht⟩, by rw [ht]; try exact hh.1.1, fun q h9 hq => by rw [ht]; try exact hh.1.2.1 q h9 hq⟩) hh.1.2.2 dX10_insertNode_23
  · skip
    have c_1' : a1.toInt ≥ 0 := jb_lt_n (rfl) ((by decide)) c_1
    refine lv_iload_n hx hb dX10_insertNode_4 rfl (lv_at hl 1 rfl) ?_
    refine lv_aload_n hx hb dX10_insertNode_5 rfl (lv_at hl 0 rfl) ?_
    refine j7_read hx hb hown hK (C := RX10) (T := TX10) (N := 11) rfl hly_12_10 hlk_89 (hh.at 0 rfl) dX10_insertNode_6 ?_
    refine lv_icmp_gt (tgt := 22) hx hb dX10_insertNode_9 (by decide) (fun c_2 => ?_) (fun c_2 => ?_)
    · skip
      have c_2' : a1.toInt > nc.toInt := jb_gt (rfl) (rfl) c_2
      refine lv_iconst (v := 0) hx hb dX10_insertNode_22 (by decide) ?_
      rw [hQ]
      exact W.zret (v := 0) hx hb hr (jb_nz (Or.inl rfl)) (fun t ht hW => ⟨⟨0, nc, rfl, ⟨(Or.inl rfl), by first | omega | (refine ⟨?_, ?_⟩ <;> (first | omega | rfl | assumption | decide | exact Or.inl rfl | exact Or.inr rfl | (simp only; omega)))⟩, hh.rt (M1 := [(r0, 12, 10, .int nc)]) [0] rfl ht⟩, by rw [ht]; try exact hh.1.1, fun q h9 hq => by rw [ht]; try exact hh.1.2.1 q h9 hq⟩) hh.1.2.2 dX10_insertNode_23
    · skip
      have c_2' : a1.toInt ≤ nc.toInt := jb_gt_n (rfl) (rfl) c_2
      refine lv_aload_n hx hb dX10_insertNode_12 rfl (lv_at hl 0 rfl) ?_
      refine j7_read hx hb hown hK (C := RX10) (T := TX10) (N := 11) rfl hly_12_10 hlk_89 (hh.at 0 rfl) dX10_insertNode_13 ?_
      refine lv_sipush (v := 3000) hx hb dX10_insertNode_16 (by decide) ?_
      refine lv_icmp_lt (tgt := 24) hx hb dX10_insertNode_19 (by decide) (fun c_3 => ?_) (fun c_3 => ?_)
      · skip
        have c_3' : nc.toInt < 3000 := jb_lt (rfl) ((by decide)) c_3
        refine lv_aload_n hx hb dX10_insertNode_24 rfl (lv_at hl 0 rfl) ?_
        refine j7_read hx hb hown hK (C := RX10) (T := TX10) (N := 11) rfl hly_12_10 hlk_89 (hh.at 0 rfl) dX10_insertNode_25 ?_
        refine lv_istore_n (lv' := [(3, .int nc), (0, .ref r0), (1, .int a1), (2, .int a2)]) hx hb dX10_insertNode_28 rfl hl (by decide) rfl (fun ls hl => ?_)
        have L29 : ∀ (N : Nat) (v3_4 : Int32) (H_4 : Heap) (locs_4 : List Loc), jSt (dC, dI) B base G0 G0 EX10_insertNodeB s.heap 0 0 [(r0, 12, 10, .int nc)] [] [] H_4 locs_4 → (a1.toInt ≤ v3_4.toInt ∧ v3_4.toInt ≤ 2999) → (v3_4.toInt - a1.toInt : Int) < N → ∀ ls : Array Slot, lv_has ls 4 [(0, .ref r0), (1, .int a1), (2, .int a2), (3, .int v3_4)] → W p l e R s m ([.ref r0, .int a1, .int a2] : List Value).toArray below meth c H_4 locs_4 0 0 Q (F0 m 29 ls []) := by
          intro N
          induction N with
          | zero => intro v3_4 H_4 locs_4 hh_4  hi_4 hm; exact absurd hm (by omega)
          | succ N L29 =>
            intro v3_4 H_4 locs_4 hh_4  hi_4 hm_4 ls hl
            obtain ⟨hi_4_0, hi_4_1⟩ := hi_4
            refine lv_iload_n hx hb dX10_insertNode_29 rfl (lv_at hl 3 rfl) ?_
            refine lv_iload_n hx hb dX10_insertNode_30 rfl (lv_at hl 1 rfl) ?_
            refine lv_icmp_le (tgt := 54) hx hb dX10_insertNode_31 (by decide) (fun c_5 => ?_) (fun c_5 => ?_)
            · skip
              have c_5' : v3_4.toInt ≤ a1.toInt := jb_le (rfl) (rfl) c_5
              refine lv_aload_n hx hb dX10_insertNode_54 rfl (lv_at hl 0 rfl) ?_
              obtain ⟨v_6, hv_6, hh_7⟩ := hh_4.pin (C := RX10) (T := TX10) (N := 11) hB12 rfl (by decide) hg_r0 (i := 9) (by decide) rfl
              clear hh_4
              obtain ⟨nodes_8, rfl, hg_nodes_8⟩ := hv_6
              refine j7_read hx hb hown hK (C := RX10) (T := TX10) (N := 11) rfl hly_12_9 hlk_21 (hh_7.at 0 rfl) dX10_insertNode_55 ?_
              refine lv_iload_n hx hb dX10_insertNode_58 rfl (lv_at hl 1 rfl) ?_
              refine lv_iload_n hx hb dX10_insertNode_59 rfl (lv_at hl 2 rfl) ?_
              refine j7_iast hx hb hK hh_7 hB hB280 1 rfl (by decide) (by decide) rfl rfl rfl hg_nodes_8 (x := a1.toInt) (rfl) (by omega) (by first | omega | rfl | assumption | decide | exact Or.inl rfl | exact Or.inr rfl | (simp only; omega)) dX10_insertNode_60 (fun H_9 locs_9 hh_9 => ?_)
              clear hh_7
              refine lv_aload_n hx hb dX10_insertNode_61 rfl (lv_at hl 0 rfl) ?_
              refine lv_dup hx hb dX10_insertNode_62 rfl ?_
              refine j7_read hx hb hown hK (C := RX10) (T := TX10) (N := 11) rfl hly_12_10 hlk_89 (hh_9.at 1 rfl) dX10_insertNode_63 ?_
              refine lv_iconst (v := 1) hx hb dX10_insertNode_66 (by decide) ?_
              refine lv_iadd hx hb dX10_insertNode_67 ?_
              refine lv_topi (fun z_10 ez_10 => ?_)
              have hz_10 : z_10.toInt = nc.toInt + 1 := by rw [ez_10]; exact jb_iadd2 (rfl) ((by decide)) (by omega)
              refine j7_put hx hb hown hK hh_9 hB hAp hB12 (C := RX10) (T := TX10) (N := 11) rfl (by decide) hg_r0 (i := 10) (by decide) hly_12_10 rfl hlk_89 rfl (ty := .int) (v := .int z_10) (by decide +kernel) rfl rfl (⟨_, rfl, by omega, by omega⟩) rfl (L1 := [(r0, 12, 9, .ref nodes_8)]) [0] rfl rfl rfl dX10_insertNode_68 (fun H_11 locs_11 hh_11 => ?_)
              clear hh_9
              refine lv_iconst (v := 1) hx hb dX10_insertNode_71 (by decide) ?_
              rw [hQ]
              exact W.zret (v := 1) hx hb hr (jb_nz (Or.inr rfl)) (fun t ht hW => ⟨⟨1, z_10, rfl, ⟨(Or.inr rfl), by first | omega | (refine ⟨?_, ?_⟩ <;> (first | omega | rfl | assumption | decide | exact Or.inl rfl | exact Or.inr rfl | (simp only; omega)))⟩, hh_11.rt (M1 := [(r0, 12, 10, .int z_10)]) [0] rfl ht⟩, by rw [ht]; try exact hh_11.1.1, fun q h9 hq => by rw [ht]; try exact hh_11.1.2.1 q h9 hq⟩) hh_11.1.2.2 dX10_insertNode_72
            · skip
              have c_5' : v3_4.toInt > a1.toInt := jb_le_n (rfl) (rfl) c_5
              refine lv_aload_n hx hb dX10_insertNode_34 rfl (lv_at hl 0 rfl) ?_
              obtain ⟨v_12, hv_12, hh_13⟩ := hh_4.pin (C := RX10) (T := TX10) (N := 11) hB12 rfl (by decide) hg_r0 (i := 9) (by decide) rfl
              clear hh_4
              obtain ⟨nodes_14, rfl, hg_nodes_14⟩ := hv_12
              refine j7_read hx hb hown hK (C := RX10) (T := TX10) (N := 11) rfl hly_12_9 hlk_21 (hh_13.at 0 rfl) dX10_insertNode_35 ?_
              refine lv_iload_n hx hb dX10_insertNode_38 rfl (lv_at hl 3 rfl) ?_
              refine lv_aload_n hx hb dX10_insertNode_39 rfl (lv_at hl 0 rfl) ?_
              refine j7_read hx hb hown hK (C := RX10) (T := TX10) (N := 11) rfl hly_12_9 hlk_21 (hh_13.at 0 rfl) dX10_insertNode_40 ?_
              refine lv_iload_n hx hb dX10_insertNode_43 rfl (lv_at hl 3 rfl) ?_
              refine lv_iconst (v := 1) hx hb dX10_insertNode_44 (by decide) ?_
              refine lv_isub hx hb dX10_insertNode_45 ?_
              refine lv_topi (fun z_15 ez_15 => ?_)
              have hz_15 : z_15.toInt = v3_4.toInt - 1 := by rw [ez_15]; exact jb_isub2 (rfl) ((by decide)) (by omega)
              refine j7_iald hx hb hK hh_13 hB280 1 rfl (by decide) hg_nodes_14 (x := z_15.toInt) (rfl) (by omega) dX10_insertNode_46 (fun z_16 (hz_16 : -1 ≤ z_16.toInt) => ?_)
              refine j7_iast hx hb hK hh_13 hB hB280 1 rfl (by decide) (by decide) rfl rfl rfl hg_nodes_14 (x := v3_4.toInt) (rfl) (by omega) (by first | omega | rfl | assumption | decide | exact Or.inl rfl | exact Or.inr rfl | (simp only; omega)) dX10_insertNode_47 (fun H_17 locs_17 hh_17 => ?_)
              clear hh_13
              obtain ⟨z_18, ez_18⟩ : ∃ y : Int32, y = v3_4 + (-1) := ⟨_, rfl⟩
              refine lv_iinc (v := z_18) (lv' := [(3, .int z_18), (0, .ref r0), (1, .int a1), (2, .int a2)]) hx hb dX10_insertNode_48 hl (k := 3) rfl (by rw [ez_18]; rfl) (by decide) rfl (fun ls hl => ?_)
              have hz_18 : z_18.toInt = v3_4.toInt + (-1) := by rw [ez_18]; exact jb_iadd2 (rfl) (by decide) (by omega)
              refine lv_goto (tgt := 29) hx hb dX10_insertNode_51 (by decide) ?_
              exact L29 z_18 _ _ (hh_17.sub (L1 := [(r0, 12, 10, .int nc)]) [1] rfl (M1 := []) [] rfl (I1 := []) [] rfl) (by first | omega | (refine ⟨?_, ?_⟩ <;> (first | omega | rfl | assumption | decide | exact Or.inl rfl | exact Or.inr rfl | (simp only; omega)))) (by omega) _ (lv_sub hl [1, 2, 3, 0] rfl)
        exact L29 ((nc : Int32).toInt - a1.toInt : Int).toNat.succ nc _ _ hh (by first | omega | (refine ⟨?_, ?_⟩ <;> (first | omega | rfl | assumption | decide | exact Or.inl rfl | exact Or.inr rfl | (simp only; omega)))) (by omega) _ (lv_sub hl [1, 2, 3, 0] rfl)
      · skip
        have c_3' : nc.toInt ≥ 3000 := jb_lt_n (rfl) ((by decide)) c_3
        refine lv_iconst (v := 0) hx hb dX10_insertNode_22 (by decide) ?_
        rw [hQ]
        exact W.zret (v := 0) hx hb hr (jb_nz (Or.inl rfl)) (fun t ht hW => ⟨⟨0, nc, rfl, ⟨(Or.inl rfl), by first | omega | (refine ⟨?_, ?_⟩ <;> (first | omega | rfl | assumption | decide | exact Or.inl rfl | exact Or.inr rfl | (simp only; omega)))⟩, hh.rt (M1 := [(r0, 12, 10, .int nc)]) [0] rfl ht⟩, by rw [ht]; try exact hh.1.1, fun q h9 hq => by rw [ht]; try exact hh.1.2.1 q h9 hq⟩) hh.1.2.2 dX10_insertNode_23
set_option maxHeartbeats 4000000 in
set_option maxRecDepth 20000 in
theorem uX10_addB (l : Launch) (dC : Nat → ClassId) (dI : Nat → Nat → Nat) (ca : Nat → ClassId) (base : Nat) (B : jF) (hB : jBok B) (hAp : jAp (dC, dI)) (hB12 : ∀ n G a H, B 12 n G a H ↔ jOb (dC, dI) 12 11 (F12b n G) a H) (hB101 : ∀ n G a H, B 101 n G a H ↔ jAr (dC, dI) (ca 1) (fun j z => True) n a H) (hB293 : ∀ n G a H, B 293 n G a H ↔ jAr (dC, dI) (ca 1) (fun j z => -1 ≤ z.toInt ∧ z.toInt ≤ 8191) n a H) (G0 : jT) (H0 : Heap) (r0 : Nat) (a1 : Int32) (a2 : Int32) (tk : Int32) : Met l yX10_add (jw yX10_add cX10_add 3 none) ({ frames := 0, cells := 0, slots := 0, locals := 0 }) (va_Pc [.ref r0, .int a1, .int a2] (fun U => U.heap = H0 ∧ jX B base G0 [] H0 ∧ jG dC dI ca base U ∧ G0 r0 = some (12, 0) ∧ jP (dC, dI) G0 H0 [(r0, 12, 3, .int tk)] ∧ 0 ≤ tk.toInt ∧ tk.toInt ≤ 1500 ∧ -1 ≤ a2.toInt ∧ a2.toInt ≤ 8191)) (va_Qv (S := Int32) (fun u => tk.toInt ≤ u.toInt ∧ u.toInt ≤ tk.toInt + 1 ∧ u.toInt ≤ 1500) (fun u t => jRt (dC, dI) B base G0 EX10_addB H0 [(r0, 12, 3, .int u)] t.heap) (jA base)) 0 0 (jA base) := by
  refine Met.ofW (cc := cX10_add) (maxL := 3) (ret := none) (by decide) rfl ?_
  intro p e s m args below meth c s₁ Bd hml hv
  obtain ⟨rfl, hH0, hX, hG, hg_r0, hP0, hp0, hp1, hp2, hp3⟩ := hv
  have hK := hG.1
  have hx := Bd.exec
  have hb := Bd.bytes
  have hr := Bd.returns
  have hts := atoms_spec (ws := (jw yX10_add cX10_add 3 none)) Bd.pre
  have htw : ∀ w ∈ jWl, w.before _ s = true := fun w h => hts w (List.mem_cons_of_mem _ h)
  have hown : s.vm.findClass RX10 = some m.cls := findClass_of_methodNamed Bd.named
  have hlocks := Bd.notSynchronized
  obtain ⟨Q, hQ⟩ : ∃ Q, Q = MQ below (va_Qv (S := Int32) (fun u => tk.toInt ≤ u.toInt ∧ u.toInt ≤ tk.toInt + 1 ∧ u.toInt ≤ 1500) (fun u t => jRt (dC, dI) B base G0 EX10_addB H0 [(r0, 12, 3, .int u)] t.heap) (jA base)) ([.ref r0, .int a1, .int a2] : List Value).toArray s 0 0 (jA base) := ⟨_, rfl⟩
  rw [← hQ]
  have hl := lv_entry ([.ref r0, .int a1, .int a2]) (n := 3) (Nat.le_of_ble_eq_true rfl)
  rw [lg_entry_eq]
  generalize (lg_sl ([.ref r0, .int a1, .int a2]) ++ List.replicate (3 - (lg_sl ([.ref r0, .int a1, .int a2])).length) Slot.unset).toArray = ls at hl ⊢
  have hl : lv_has ls 3 [(0, .ref r0), (1, .int a1), (2, .int a2)] := hl
  generalize hR : (headSpec (jw yX10_add cX10_add 3 none) ({ frames := 0, cells := 0, slots := 0, locals := 0 })).room = R
  subst hH0
  have hh : jSt (dC, dI) B base G0 G0 EX10_addB s.heap 0 0 [(r0, 12, 3, .int tk)] [] [] s.heap [] := jSt.start hX hP0 jMc.nil jIs.nil
  clear hX hP0
  have hk0 : (0 : Int32).toInt = 0 := by decide
  have hk1 : (1 : Int32).toInt = 1 := by decide
  have hk1500 : (1500 : Int32).toInt = 1500 := by decide
  have hly_12_1 := htw (u_lay RX10 TX10 1) (jWc_wsX100 _ (u_in_lay (by decide)))
  have hly_12_2 := htw (u_lay RX10 TX10 2) (jWc_wsX100 _ (u_in_lay (by decide)))
  have hly_12_3 := htw (u_lay RX10 TX10 3) (jWc_wsX100 _ (u_in_lay (by decide)))
  have hlk_28 := (htw (.fieldLink RX10 28 "ProofServer$Syntax" "tokens" "I") (jWr_36 _ (List.mem_of_getElem? (i := 23) rfl)))
  have hlk_9 := (htw (.fieldLink RX10 9 "ProofServer$Syntax" "kinds" "[I") (jWr_8 _ (List.mem_of_getElem? (i := 8) rfl)))
  have hlk_15 := (htw (.fieldLink RX10 15 "ProofServer$Syntax" "values" "[I") (jWr_8 _ (List.mem_of_getElem? (i := 9) rfl)))
  have hrg_a1 := jb_rng a1
  have hrg_a2 := jb_rng a2
  refine lv_aload_n hx hb dX10_add_0 rfl (lv_at hl 0 rfl) ?_
  refine j7_read hx hb hown hK (C := RX10) (T := TX10) (N := 11) rfl hly_12_3 hlk_28 (hh.at 0 rfl) dX10_add_1 ?_
  refine lv_sipush (v := 1500) hx hb dX10_add_4 (by decide) ?_
  refine lv_icmp_ge (tgt := 40) hx hb dX10_add_7 (by decide) (fun c_1 => ?_) (fun c_1 => ?_)
  · skip
    have c_1' : tk.toInt ≥ 1500 := jb_ge (rfl) ((by decide)) c_1
    rw [hQ]
    exact W.vret hx hb hr (fun t ht hW => ⟨⟨tk, rfl, by first | omega | (refine ⟨?_, ?_, ?_⟩ <;> (first | omega | rfl | assumption | decide | exact Or.inl rfl | exact Or.inr rfl | (simp only; omega))), hh.rt (M1 := [(r0, 12, 3, .int tk)]) [0] rfl ht⟩, by rw [ht]; try exact hh.1.1, fun q h9 hq => by rw [ht]; try exact hh.1.2.1 q h9 hq⟩) hh.1.2.2 dX10_add_40
  · skip
    have c_1' : tk.toInt < 1500 := jb_ge_n (rfl) ((by decide)) c_1
    refine lv_aload_n hx hb dX10_add_10 rfl (lv_at hl 0 rfl) ?_
    obtain ⟨v_2, hv_2, hh_3⟩ := hh.pin (C := RX10) (T := TX10) (N := 11) hB12 rfl (by decide) hg_r0 (i := 1) (by decide) rfl
    clear hh
    obtain ⟨kinds_4, rfl, hg_kinds_4⟩ := hv_2
    refine j7_read hx hb hown hK (C := RX10) (T := TX10) (N := 11) rfl hly_12_1 hlk_9 (hh_3.at 0 rfl) dX10_add_11 ?_
    refine lv_aload_n hx hb dX10_add_14 rfl (lv_at hl 0 rfl) ?_
    refine j7_read hx hb hown hK (C := RX10) (T := TX10) (N := 11) rfl hly_12_3 hlk_28 (hh_3.at 1 rfl) dX10_add_15 ?_
    refine lv_iload_n hx hb dX10_add_18 rfl (lv_at hl 1 rfl) ?_
    refine j7_iast hx hb hK hh_3 hB hB101 1 rfl (by decide) (by decide) rfl rfl rfl hg_kinds_4 (x := tk.toInt) (rfl) (by omega) (trivial) dX10_add_19 (fun H_5 locs_5 hh_5 => ?_)
    clear hh_3
    refine lv_aload_n hx hb dX10_add_20 rfl (lv_at hl 0 rfl) ?_
    obtain ⟨v_6, hv_6, hh_7⟩ := hh_5.pin (C := RX10) (T := TX10) (N := 11) hB12 rfl (by decide) hg_r0 (i := 2) (by decide) rfl
    clear hh_5
    obtain ⟨values_8, rfl, hg_values_8⟩ := hv_6
    refine j7_read hx hb hown hK (C := RX10) (T := TX10) (N := 11) rfl hly_12_2 hlk_15 (hh_7.at 0 rfl) dX10_add_21 ?_
    refine lv_aload_n hx hb dX10_add_24 rfl (lv_at hl 0 rfl) ?_
    refine j7_read hx hb hown hK (C := RX10) (T := TX10) (N := 11) rfl hly_12_3 hlk_28 (hh_7.at 2 rfl) dX10_add_25 ?_
    refine lv_iload_n hx hb dX10_add_28 rfl (lv_at hl 2 rfl) ?_
    refine j7_iast hx hb hK hh_7 hB hB293 1 rfl (by decide) (by decide) rfl rfl rfl hg_values_8 (x := tk.toInt) (rfl) (by omega) (by first | omega | (refine ⟨?_, ?_⟩ <;> (first | omega | rfl | assumption | decide | exact Or.inl rfl | exact Or.inr rfl | (simp only; omega)))) dX10_add_29 (fun H_9 locs_9 hh_9 => ?_)
    clear hh_7
    refine lv_aload_n hx hb dX10_add_30 rfl (lv_at hl 0 rfl) ?_
    refine lv_dup hx hb dX10_add_31 rfl ?_
    refine j7_read hx hb hown hK (C := RX10) (T := TX10) (N := 11) rfl hly_12_3 hlk_28 (hh_9.at 2 rfl) dX10_add_32 ?_
    refine lv_iconst (v := 1) hx hb dX10_add_35 (by decide) ?_
    refine lv_iadd hx hb dX10_add_36 ?_
    refine lv_topi (fun z_10 ez_10 => ?_)
    have hz_10 : z_10.toInt = tk.toInt + 1 := by rw [ez_10]; exact jb_iadd2 (rfl) ((by decide)) (by omega)
    refine j7_put hx hb hown hK hh_9 hB hAp hB12 (C := RX10) (T := TX10) (N := 11) rfl (by decide) hg_r0 (i := 3) (by decide) hly_12_3 rfl hlk_28 rfl (ty := .int) (v := .int z_10) (by decide +kernel) rfl rfl (⟨_, rfl, by omega, by omega⟩) rfl (L1 := [(r0, 12, 2, .ref values_8), (r0, 12, 1, .ref kinds_4)]) [0, 1] rfl rfl rfl dX10_add_37 (fun H_11 locs_11 hh_11 => ?_)
    clear hh_9
    rw [hQ]
    exact W.vret hx hb hr (fun t ht hW => ⟨⟨z_10, rfl, by first | omega | (refine ⟨?_, ?_, ?_⟩ <;> (first | omega | rfl | assumption | decide | exact Or.inl rfl | exact Or.inr rfl | (simp only; omega))), hh_11.rt (M1 := [(r0, 12, 3, .int z_10)]) [0] rfl ht⟩, by rw [ht]; try exact hh_11.1.1, fun q h9 hq => by rw [ht]; try exact hh_11.1.2.1 q h9 hq⟩) hh_11.1.2.2 dX10_add_40
end
