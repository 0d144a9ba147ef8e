def EX1_sentenceBeginS : List (Nat × Nat) := []
def EX1_sentenceEndS : List (Nat × Nat) := []
set_option maxHeartbeats 4000000 in
set_option maxRecDepth 20000 in
theorem uX1_sentenceBeginS (l : Launch) (dC : Nat → ClassId) (dI : Nat → Nat → Nat) (ca : Nat → ClassId) (base : Nat) (B : jF) (hB : jBok B) (hAp : jAp (dC, dI)) (hB3 : ∀ n G a H, B 3 n G a H ↔ jOb (dC, dI) 3 17 (F3 n G) a H) (hB101 : ∀ n G a H, B 101 n G a H ↔ jAr (dC, dI) (ca 1) (fun j z => True) n a H) (G0 : jT) (H0 : Heap) (r0 : Nat) (a1 : Int32) (n0 : Nat) (pl : Int32) : Met l yX1_sentenceBegin (jw yX1_sentenceBegin cX1_sentenceBegin 5 (some .int)) ({ frames := 2, cells := 0, slots := 0, locals := 46 }) (va_Pc [.ref r0, .int a1] (fun U => U.heap = H0 ∧ jX B base G0 [] H0 ∧ jG dC dI ca base U ∧ G0 r0 = some (3, n0) ∧ jP (dC, dI) G0 H0 [(r0, 3, 3, .int pl)] ∧ 0 ≤ a1.toInt ∧ a1.toInt ≤ pl.toInt ∧ pl.toInt ≤ 1500)) (va_Qi (S := Unit) (fun r u => (a1.toInt ≤ r.toInt ∧ r.toInt ≤ pl.toInt)) (fun u t => jRt (dC, dI) B base G0 EX1_sentenceBeginS H0 [] t.heap) (jA base)) 0 0 (jA base) := by
  refine Met.ofW (cc := cX1_sentenceBegin) (maxL := 5) (ret := (some .int)) (by decide) rfl ?_
  intro p e s m args below meth c s₁ Bd hml hv
  obtain ⟨rfl, hH0, hX, hG, hg_r0, hP0, hp0, hp1, hp2⟩ := hv
  have hK := hG.1
  have hx := Bd.exec
  have hb := Bd.bytes
  have hr := Bd.returns
  have hts := atoms_spec (ws := (jw yX1_sentenceBegin cX1_sentenceBegin 5 (some .int))) Bd.pre
  have htw : ∀ w ∈ jWl, w.before _ s = true := fun w h => hts w (List.mem_cons_of_mem _ h)
  have hown : s.vm.findClass RX1 = some m.cls := findClass_of_methodNamed Bd.named
  have hlocks := Bd.notSynchronized
  obtain ⟨Q, hQ⟩ : ∃ Q, Q = MQ below (va_Qi (S := Unit) (fun r u => (a1.toInt ≤ r.toInt ∧ r.toInt ≤ pl.toInt)) (fun u t => jRt (dC, dI) B base G0 EX1_sentenceBeginS H0 [] t.heap) (jA base)) ([.ref r0, .int a1] : List Value).toArray s 0 0 (jA base) := ⟨_, rfl⟩
  rw [← hQ]
  have hl := lv_entry ([.ref r0, .int a1]) (n := 5) (Nat.le_of_ble_eq_true rfl)
  rw [lg_entry_eq]
  generalize (lg_sl ([.ref r0, .int a1]) ++ List.replicate (5 - (lg_sl ([.ref r0, .int a1])).length) Slot.unset).toArray = ls at hl ⊢
  have hl : lv_has ls 5 [(0, .ref r0), (1, .int a1)] := hl
  generalize hR : (headSpec (jw yX1_sentenceBegin cX1_sentenceBegin 5 (some .int)) ({ frames := 2, cells := 0, slots := 0, locals := 46 })).room = R
  subst hH0
  have hh : jSt (dC, dI) B base G0 G0 EX1_sentenceBeginS s.heap 0 0 [(r0, 3, 3, .int pl)] [] [] s.heap [] := jSt.start hX hP0 jMc.nil jIs.nil
  clear hX hP0
  have hk0 : (0 : Int32).toInt = 0 := by decide
  have hk1 : (1 : Int32).toInt = 1 := by decide
  have hly_3_2 := htw (u_lay RX1 TX1 2) (jWc_wsX10 _ (u_in_lay (by decide)))
  have hly_3_3 := htw (u_lay RX1 TX1 3) (jWc_wsX10 _ (u_in_lay (by decide)))
  have hlk_42 := (htw (.fieldLink RX1 42 "ProofServer$Document" "length" "I") (jWr_29 _ (List.mem_of_getElem? (i := 5) rfl)))
  have hlk_15 := (htw (.fieldLink RX1 15 "ProofServer$Document" "text" "[I") (jWr_10 _ (List.mem_of_getElem? (i := 6) rfl)))
  have hrg_a1 := jb_rng a1
  refine lv_iload_n hx hb dX1_sentenceBegin_0 rfl (lv_at hl 1 rfl) ?_
  refine lv_istore_n (lv' := [(2, .int a1), (0, .ref r0), (1, .int a1)]) hx hb dX1_sentenceBegin_1 rfl hl (by decide) rfl (fun ls hl => ?_)
  refine lv_iconst (v := 0) hx hb dX1_sentenceBegin_2 (by decide) ?_
  refine lv_istore_n (lv' := [(3, .int 0), (2, .int a1), (0, .ref r0), (1, .int a1)]) hx hb dX1_sentenceBegin_3 rfl hl (by decide) rfl (fun ls hl => ?_)
  have L4 : ∀ (N : Nat) (v2_1 : Int32) (v3_1 : Int32) (H_1 : Heap) (locs_1 : List Loc), jSt (dC, dI) B base G0 G0 EX1_sentenceBeginS s.heap 0 0 [(r0, 3, 3, .int pl)] [] [] H_1 locs_1 → (a1.toInt ≤ v2_1.toInt ∧ v2_1.toInt ≤ pl.toInt ∧ 0 ≤ v3_1.toInt ∧ v3_1.toInt ≤ 1502) → (1502 - v3_1.toInt : Int) < N → ∀ ls : Array Slot, lv_has ls 5 [(0, .ref r0), (1, .int a1), (2, .int v2_1), (3, .int v3_1)] → W p l e R s m ([.ref r0, .int a1] : List Value).toArray below meth c H_1 locs_1 0 0 Q (F0 m 4 ls []) := by
    intro N
    induction N with
    | zero => intro v2_1 v3_1 H_1 locs_1 hh_1  hi_1 hm; exact absurd hm (by omega)
    | succ N L4 =>
      intro v2_1 v3_1 H_1 locs_1 hh_1  hi_1 hm_1 ls hl
      obtain ⟨hi_1_0, hi_1_1, hi_1_2, hi_1_3⟩ := hi_1
      refine lv_iload_n hx hb dX1_sentenceBegin_4 rfl (lv_at hl 3 rfl) ?_
      refine lv_aload_n hx hb dX1_sentenceBegin_5 rfl (lv_at hl 0 rfl) ?_
      refine j7_read hx hb hown hK (C := RX1) (T := TX1) (N := 17) rfl hly_3_3 hlk_42 (hh_1.at 0 rfl) dX1_sentenceBegin_6 ?_
      refine lv_icmp_gt (tgt := 68) hx hb dX1_sentenceBegin_9 (by decide) (fun c_2 => ?_) (fun c_2 => ?_)
      · skip
        have c_2' : v3_1.toInt > pl.toInt := jb_gt (rfl) (rfl) c_2
        refine lv_iload_n hx hb dX1_sentenceBegin_68 rfl (lv_at hl 2 rfl) ?_
        rw [hQ]
        exact W.iret (v := v2_1) hx hb hr (fun t ht hW => ⟨⟨v2_1, (), rfl, by first | omega | (refine ⟨?_, ?_⟩ <;> (first | omega | rfl | assumption | decide | exact Or.inl rfl | exact Or.inr rfl | (simp only; omega))), hh_1.rt (M1 := []) [] rfl ht⟩, by rw [ht]; try exact hh_1.1.1, fun q h9 hq => by rw [ht]; try exact hh_1.1.2.1 q h9 hq⟩) hh_1.1.2.2 dX1_sentenceBegin_69
      · skip
        have c_2' : v3_1.toInt ≤ pl.toInt := jb_gt_n (rfl) (rfl) c_2
        refine lv_iload_n hx hb dX1_sentenceBegin_12 rfl (lv_at hl 2 rfl) ?_
        refine lv_aload_n hx hb dX1_sentenceBegin_13 rfl (lv_at hl 0 rfl) ?_
        refine j7_read hx hb hown hK (C := RX1) (T := TX1) (N := 17) rfl hly_3_3 hlk_42 (hh_1.at 0 rfl) dX1_sentenceBegin_14 ?_
        refine lv_icmp_ge (tgt := 68) hx hb dX1_sentenceBegin_17 (by decide) (fun c_3 => ?_) (fun c_3 => ?_)
        · skip
          have c_3' : v2_1.toInt ≥ pl.toInt := jb_ge (rfl) (rfl) c_3
          refine lv_iload_n hx hb dX1_sentenceBegin_68 rfl (lv_at hl 2 rfl) ?_
          rw [hQ]
          exact W.iret (v := v2_1) hx hb hr (fun t ht hW => ⟨⟨v2_1, (), rfl, by first | omega | (refine ⟨?_, ?_⟩ <;> (first | omega | rfl | assumption | decide | exact Or.inl rfl | exact Or.inr rfl | (simp only; omega))), hh_1.rt (M1 := []) [] rfl ht⟩, by rw [ht]; try exact hh_1.1.1, fun q h9 hq => by rw [ht]; try exact hh_1.1.2.1 q h9 hq⟩) hh_1.1.2.2 dX1_sentenceBegin_69
        · skip
          have c_3' : v2_1.toInt < pl.toInt := jb_ge_n (rfl) (rfl) c_3
          refine lv_aload_n hx hb dX1_sentenceBegin_20 rfl (lv_at hl 0 rfl) ?_
          obtain ⟨v_4, hv_4, hh_5⟩ := hh_1.pin (C := RX1) (T := TX1) (N := 17) hB3 rfl (by decide) hg_r0 (i := 2) (by decide) rfl
          clear hh_1
          obtain ⟨text_6, rfl, hg_text_6⟩ := hv_4
          refine j7_read hx hb hown hK (C := RX1) (T := TX1) (N := 17) rfl hly_3_2 hlk_15 (hh_5.at 0 rfl) dX1_sentenceBegin_21 ?_
          refine lv_iload_n hx hb dX1_sentenceBegin_24 rfl (lv_at hl 2 rfl) ?_
          refine j7_iald hx hb hK hh_5 hB101 1 rfl (by decide) hg_text_6 (x := v2_1.toInt) (rfl) (by omega) dX1_sentenceBegin_25 (fun z_7 (hz_7 : True) => ?_)
          refine vp_callSi (va_Run.run (va_runSN (As := [.int z_7]) (rest := []) ⟨hx, hb, hml, hown, hts⟩ (wX11_isBlank l dC dI ca base H_1 z_7) ⟨va_cnB 1 hts (jgW (jWr_20 _ (List.mem_of_getElem? (i := 0) rfl))) rfl rfl rfl (hG.2.2.1 RX1 87 yX11_isBlank "ProofServer" (List.mem_of_getElem? (i := 1119) (by decide +kernel))) (htw (.initialized RX11) (jWr_1 _ (List.mem_of_getElem? (i := 2) rfl))) (by decide +kernel) ⟨by rw [← hR]; exact Nat.le_of_ble_eq_true rfl, by rw [← hR]; exact Nat.le_of_ble_eq_true rfl⟩, htw (.static yX11_isBlank) (jWr_19 _ (List.mem_of_getElem? (i := 23) rfl)), trivial⟩ ⟨fun a U g mk q => by obtain ⟨q0, q1, qK, q9⟩ := q; exact ⟨q0, q1, jG.calling g mk a qK, q9⟩, fun U hU hW => ⟨rfl, hU, hG.step hW hU hh_5.1, by first | trivial | omega | (constructor <;> omega)⟩⟩ rfl rfl hl.1 rfl (lv_room (Nat.le_of_ble_eq_true rfl)) dX1_sentenceBegin_26 ⟨Nat.zero_le _, Nat.zero_le _⟩)) (fun r_8 hr_8 => ?_)
          have hr_8' : r_8.toInt = 0 ∨ r_8.toInt = 1 := jb_01 hr_8
          refine lv_if_eq (tgt := 38) hx hb dX1_sentenceBegin_29 (by decide) (fun c_9 => ?_) (fun c_9 => ?_)
          · skip
            have c_9' : r_8.toInt = 0 := jb_eq (rfl) ((by decide)) c_9
            refine lv_aload_n hx hb dX1_sentenceBegin_38 rfl (lv_at hl 0 rfl) ?_
            refine j7_read hx hb hown hK (C := RX1) (T := TX1) (N := 17) rfl hly_3_2 hlk_15 (hh_5.at 0 rfl) dX1_sentenceBegin_39 ?_
            refine lv_iload_n hx hb dX1_sentenceBegin_42 rfl (lv_at hl 2 rfl) ?_
            refine lv_aload_n hx hb dX1_sentenceBegin_43 rfl (lv_at hl 0 rfl) ?_
            refine j7_read hx hb hown hK (C := RX1) (T := TX1) (N := 17) rfl hly_3_3 hlk_42 (hh_5.at 1 rfl) dX1_sentenceBegin_44 ?_
            refine va_calli (A0 := jA base) (H0 := s.heap) (va_runSN (As := [.ref text_6, .int v2_1, .int pl]) (rest := []) ⟨hx, hb, hml, hown, hts⟩ (uX11_commentEnd l dC dI ca base B hB hAp hB101 G0 H_1 text_6 v2_1 pl 1500) ⟨va_cnB 3 hts (jgW (jWr_36 _ (List.mem_of_getElem? (i := 11) rfl))) rfl rfl rfl (hG.2.2.1 RX1 91 yX11_commentEnd "ProofServer" (List.mem_of_getElem? (i := 1120) (by decide +kernel))) (htw (.initialized RX11) (jWr_1 _ (List.mem_of_getElem? (i := 2) rfl))) (by decide +kernel) ⟨by rw [← hR]; exact Nat.le_of_ble_eq_true rfl, by rw [← hR]; exact Nat.le_of_ble_eq_true rfl⟩, htw (.static yX11_commentEnd) (jWr_36 _ (List.mem_of_getElem? (i := 10) rfl)), trivial⟩ ⟨fun a U g mk q => by obtain ⟨q0, q1, q2, qK, q10, q11, q12⟩ := q; exact ⟨q0, q1, q2, jG.calling g mk a qK, q10, q11, q12⟩, fun U hU hW => ⟨rfl, hU, hh_5.2.1, hG.step hW hU hh_5.1, hg_text_6, jP.nil, by first | omega | (refine ⟨?_, ?_⟩ <;> (first | omega | rfl | assumption | decide | exact Or.inl rfl | exact Or.inr rfl | (simp only; omega)))⟩⟩ rfl rfl hl.1 rfl (lv_room (Nat.le_of_ble_eq_true rfl)) dX1_sentenceBegin_47 ⟨Nat.zero_le _, Nat.zero_le _⟩) hh_5.1 (fun q _ h => h) (fun q h => h) (fun r_11 u_10 t_10 H_10 locs_10 ht_10 hvm_10 hr_11 hb_10 hz_10 hk_10 hS_10 => ?_)
            rw [ht_10] at hb_10
            obtain ⟨hb_101, hb_102, hb_103, hb_104, hb_105⟩ := hb_10
            have hh_10 : jSt (dC, dI) B base G0 G0 EX1_sentenceBeginS s.heap 0 0 [(r0, 3, 2, .ref text_6), (r0, 3, 3, .int pl)] [] [] H_10 locs_10 := ((hh_5.call hb_101 hb_102 hb_103 hb_104 hS_10 rfl (L1 := [(r0, 3, 2, .ref text_6), (r0, 3, 3, .int pl)]) [0, 1] rfl rfl (M1 := []) [] rfl rfl (I1 := []) [] rfl rfl).more hb_105)
            clear hh_5 ht_10 hvm_10 hz_10 hk_10 hS_10 hb_101 hb_102 hb_103 hb_104 hb_105
            refine lv_istore (lv' := [(4, .int r_11), (0, .ref r0), (1, .int a1), (2, .int v2_1), (3, .int v3_1)]) hx hb dX1_sentenceBegin_50 hl (by decide) rfl (fun ls hl => ?_)
            refine lv_iload hx hb dX1_sentenceBegin_52 (lv_at hl 0 rfl) ?_
            refine lv_if_ge (tgt := 59) hx hb dX1_sentenceBegin_54 (by decide) (fun c_12 => ?_) (fun c_12 => ?_)
            · skip
              have c_12' : r_11.toInt ≥ 0 := jb_ge (rfl) ((by decide)) c_12
              first | (have hr_11q := hr_11.resolve_left (by omega); clear hr_11) | (have hr_11q := hr_11.resolve_right (by omega); clear hr_11) | skip
              refine lv_iload hx hb dX1_sentenceBegin_59 (lv_at hl 0 rfl) ?_
              refine lv_istore_n (lv' := [(2, .int r_11), (4, .int r_11), (0, .ref r0), (1, .int a1), (3, .int v3_1)]) hx hb dX1_sentenceBegin_61 rfl hl (by decide) rfl (fun ls hl => ?_)
              obtain ⟨z_13, ez_13⟩ : ∃ y : Int32, y = v3_1 + 1 := ⟨_, rfl⟩
              refine lv_iinc (v := z_13) (lv' := [(3, .int z_13), (2, .int r_11), (4, .int r_11), (0, .ref r0), (1, .int a1)]) hx hb dX1_sentenceBegin_62 hl (k := 4) rfl (by rw [ez_13]; rfl) (by decide) rfl (fun ls hl => ?_)
              have hz_13 : z_13.toInt = v3_1.toInt + 1 := by rw [ez_13]; exact jb_iadd2 (rfl) (by decide) (by omega)
              refine lv_goto (tgt := 4) hx hb dX1_sentenceBegin_65 (by decide) ?_
              exact L4 r_11 z_13 _ _ (hh_10.sub (L1 := [(r0, 3, 3, .int pl)]) [1] rfl (M1 := []) [] rfl (I1 := []) [] rfl) (by first | omega | (refine ⟨?_, ?_, ?_, ?_⟩ <;> (first | omega | rfl | assumption | decide | exact Or.inl rfl | exact Or.inr rfl | (simp only; omega)))) (by omega) _ (lv_sub hl [3, 4, 1, 0] rfl)
            · skip
              have c_12' : r_11.toInt < 0 := jb_ge_n (rfl) ((by decide)) c_12
              first | (have hr_11q := hr_11.resolve_left (by omega); clear hr_11) | (have hr_11q := hr_11.resolve_right (by omega); clear hr_11) | skip
              refine lv_iload_n hx hb dX1_sentenceBegin_57 rfl (lv_at hl 3 rfl) ?_
              rw [hQ]
              exact W.iret (v := v2_1) hx hb hr (fun t ht hW => ⟨⟨v2_1, (), rfl, by first | omega | (refine ⟨?_, ?_⟩ <;> (first | omega | rfl | assumption | decide | exact Or.inl rfl | exact Or.inr rfl | (simp only; omega))), hh_10.rt (M1 := []) [] rfl ht⟩, by rw [ht]; try exact hh_10.1.1, fun q h9 hq => by rw [ht]; try exact hh_10.1.2.1 q h9 hq⟩) hh_10.1.2.2 dX1_sentenceBegin_58
          · skip
            have c_9' : r_8.toInt ≠ 0 := jb_eq_n (rfl) ((by decide)) c_9
            obtain ⟨z_14, ez_14⟩ : ∃ y : Int32, y = v2_1 + 1 := ⟨_, rfl⟩
            refine lv_iinc (v := z_14) (lv' := [(2, .int z_14), (0, .ref r0), (1, .int a1), (3, .int v3_1)]) hx hb dX1_sentenceBegin_32 hl (k := 2) rfl (by rw [ez_14]; rfl) (by decide) rfl (fun ls hl => ?_)
            have hz_14 : z_14.toInt = v2_1.toInt + 1 := by rw [ez_14]; exact jb_iadd2 (rfl) (by decide) (by omega)
            refine lv_goto (tgt := 62) hx hb dX1_sentenceBegin_35 (by decide) ?_
            obtain ⟨z_15, ez_15⟩ : ∃ y : Int32, y = v3_1 + 1 := ⟨_, rfl⟩
            refine lv_iinc (v := z_15) (lv' := [(3, .int z_15), (2, .int z_14), (0, .ref r0), (1, .int a1)]) hx hb dX1_sentenceBegin_62 hl (k := 3) rfl (by rw [ez_15]; rfl) (by decide) rfl (fun ls hl => ?_)
            have hz_15 : z_15.toInt = v3_1.toInt + 1 := by rw [ez_15]; exact jb_iadd2 (rfl) (by decide) (by omega)
            refine lv_goto (tgt := 4) hx hb dX1_sentenceBegin_65 (by decide) ?_
            exact L4 z_14 z_15 _ _ (hh_5.sub (L1 := [(r0, 3, 3, .int pl)]) [1] rfl (M1 := []) [] rfl (I1 := []) [] rfl) (by first | omega | (refine ⟨?_, ?_, ?_, ?_⟩ <;> (first | omega | rfl | assumption | decide | exact Or.inl rfl | exact Or.inr rfl | (simp only; omega)))) (by omega) _ (lv_sub hl [2, 3, 1, 0] rfl)
  exact L4 (1502 - (0 : Int32).toInt : Int).toNat.succ a1 0 _ _ hh (by first | omega | (refine ⟨?_, ?_, ?_, ?_⟩ <;> (first | omega | rfl | assumption | decide | exact Or.inl rfl | exact Or.inr rfl | (simp only; omega)))) (by omega) _ (lv_sub hl [2, 3, 1, 0] rfl)
set_option maxHeartbeats 4000000 in
set_option maxRecDepth 20000 in
theorem uX1_sentenceEndS (l : Launch) (dC : Nat → ClassId) (dI : Nat → Nat → Nat) (ca : Nat → ClassId) (base : Nat) (B : jF) (hB : jBok B) (hAp : jAp (dC, dI)) (hB3 : ∀ n G a H, B 3 n G a H ↔ jOb (dC, dI) 3 17 (F3 n G) a H) (hB101 : ∀ n G a H, B 101 n G a H ↔ jAr (dC, dI) (ca 1) (fun j z => True) n a H) (G0 : jT) (H0 : Heap) (r0 : Nat) (a1 : Int32) (n0 : Nat) (pl : Int32) : Met l yX1_sentenceEnd (jw yX1_sentenceEnd cX1_sentenceEnd 5 (some .int)) ({ frames := 2, cells := 0, slots := 0, locals := 46 }) (va_Pc [.ref r0, .int a1] (fun U => U.heap = H0 ∧ jX B base G0 [] H0 ∧ jG dC dI ca base U ∧ G0 r0 = some (3, n0) ∧ jP (dC, dI) G0 H0 [(r0, 3, 3, .int pl)] ∧ 0 ≤ a1.toInt ∧ a1.toInt < pl.toInt ∧ pl.toInt ≤ 1500)) (va_Qi (S := Unit) (fun r u => (r.toInt = -1 ∨ (a1.toInt < r.toInt ∧ r.toInt ≤ pl.toInt))) (fun u t => jRt (dC, dI) B base G0 EX1_sentenceEndS H0 [] t.heap) (jA base)) 0 0 (jA base) := by
  refine Met.ofW (cc := cX1_sentenceEnd) (maxL := 5) (ret := (some .int)) (by decide) rfl ?_
  intro p e s m args below meth c s₁ Bd hml hv
  obtain ⟨rfl, hH0, hX, hG, hg_r0, hP0, hp0, hp1, hp2⟩ := hv
  have hK := hG.1
  have hx := Bd.exec
  have hb := Bd.bytes
  have hr := Bd.returns
  have hts := atoms_spec (ws := (jw yX1_sentenceEnd cX1_sentenceEnd 5 (some .int))) Bd.pre
  have htw : ∀ w ∈ jWl, w.before _ s = true := fun w h => hts w (List.mem_cons_of_mem _ h)
  have hown : s.vm.findClass RX1 = some m.cls := findClass_of_methodNamed Bd.named
  have hlocks := Bd.notSynchronized
  obtain ⟨Q, hQ⟩ : ∃ Q, Q = MQ below (va_Qi (S := Unit) (fun r u => (r.toInt = -1 ∨ (a1.toInt < r.toInt ∧ r.toInt ≤ pl.toInt))) (fun u t => jRt (dC, dI) B base G0 EX1_sentenceEndS H0 [] t.heap) (jA base)) ([.ref r0, .int a1] : List Value).toArray s 0 0 (jA base) := ⟨_, rfl⟩
  rw [← hQ]
  have hl := lv_entry ([.ref r0, .int a1]) (n := 5) (Nat.le_of_ble_eq_true rfl)
  rw [lg_entry_eq]
  generalize (lg_sl ([.ref r0, .int a1]) ++ List.replicate (5 - (lg_sl ([.ref r0, .int a1])).length) Slot.unset).toArray = ls at hl ⊢
  have hl : lv_has ls 5 [(0, .ref r0), (1, .int a1)] := hl
  generalize hR : (headSpec (jw yX1_sentenceEnd cX1_sentenceEnd 5 (some .int)) ({ frames := 2, cells := 0, slots := 0, locals := 46 })).room = R
  subst hH0
  have hh : jSt (dC, dI) B base G0 G0 EX1_sentenceEndS s.heap 0 0 [(r0, 3, 3, .int pl)] [] [] s.heap [] := jSt.start hX hP0 jMc.nil jIs.nil
  clear hX hP0
  have hkm1 : ((-1) : Int32).toInt = (-1) := by decide
  have hk0 : (0 : Int32).toInt = 0 := by decide
  have hk1 : (1 : Int32).toInt = 1 := by decide
  have hk46 : (46 : Int32).toInt = 46 := by decide
  have hly_3_2 := htw (u_lay RX1 TX1 2) (jWc_wsX10 _ (u_in_lay (by decide)))
  have hly_3_3 := htw (u_lay RX1 TX1 3) (jWc_wsX10 _ (u_in_lay (by decide)))
  have hlk_42 := (htw (.fieldLink RX1 42 "ProofServer$Document" "length" "I") (jWr_29 _ (List.mem_of_getElem? (i := 5) rfl)))
  have hlk_15 := (htw (.fieldLink RX1 15 "ProofServer$Document" "text" "[I") (jWr_10 _ (List.mem_of_getElem? (i := 6) rfl)))
  have hrg_a1 := jb_rng a1
  refine lv_iload_n hx hb dX1_sentenceEnd_0 rfl (lv_at hl 1 rfl) ?_
  refine lv_istore_n (lv' := [(2, .int a1), (0, .ref r0), (1, .int a1)]) hx hb dX1_sentenceEnd_1 rfl hl (by decide) rfl (fun ls hl => ?_)
  refine lv_iconst (v := 0) hx hb dX1_sentenceEnd_2 (by decide) ?_
  refine lv_istore_n (lv' := [(3, .int 0), (2, .int a1), (0, .ref r0), (1, .int a1)]) hx hb dX1_sentenceEnd_3 rfl hl (by decide) rfl (fun ls hl => ?_)
  have L4 : ∀ (N : Nat) (v2_1 : Int32) (v3_1 : Int32) (H_1 : Heap) (locs_1 : List Loc), jSt (dC, dI) B base G0 G0 EX1_sentenceEndS s.heap 0 0 [(r0, 3, 3, .int pl)] [] [] H_1 locs_1 → (a1.toInt ≤ v2_1.toInt ∧ v2_1.toInt ≤ pl.toInt ∧ 0 ≤ v3_1.toInt ∧ v3_1.toInt ≤ 1502) → (1502 - v3_1.toInt : Int) < N → ∀ ls : Array Slot, lv_has ls 5 [(0, .ref r0), (1, .int a1), (2, .int v2_1), (3, .int v3_1)] → W p l e R s m ([.ref r0, .int a1] : List Value).toArray below meth c H_1 locs_1 0 0 Q (F0 m 4 ls []) := by
    intro N
    induction N with
    | zero => intro v2_1 v3_1 H_1 locs_1 hh_1  hi_1 hm; exact absurd hm (by omega)
    | succ N L4 =>
      intro v2_1 v3_1 H_1 locs_1 hh_1  hi_1 hm_1 ls hl
      obtain ⟨hi_1_0, hi_1_1, hi_1_2, hi_1_3⟩ := hi_1
      refine lv_iload_n hx hb dX1_sentenceEnd_4 rfl (lv_at hl 3 rfl) ?_
      refine lv_aload_n hx hb dX1_sentenceEnd_5 rfl (lv_at hl 0 rfl) ?_
      refine j7_read hx hb hown hK (C := RX1) (T := TX1) (N := 17) rfl hly_3_3 hlk_42 (hh_1.at 0 rfl) dX1_sentenceEnd_6 ?_
      refine lv_icmp_gt (tgt := 123) hx hb dX1_sentenceEnd_9 (by decide) (fun c_2 => ?_) (fun c_2 => ?_)
      · skip
        have c_2' : v3_1.toInt > pl.toInt := jb_gt (rfl) (rfl) c_2
        refine lv_iconst (v := (-1)) hx hb dX1_sentenceEnd_123 (by decide) ?_
        rw [hQ]
        exact W.iret (v := (-1)) hx hb hr (fun t ht hW => ⟨⟨(-1), (), rfl, by first | omega | rfl | assumption | decide | exact Or.inl rfl | exact Or.inr rfl | (simp only; omega), hh_1.rt (M1 := []) [] rfl ht⟩, by rw [ht]; try exact hh_1.1.1, fun q h9 hq => by rw [ht]; try exact hh_1.1.2.1 q h9 hq⟩) hh_1.1.2.2 dX1_sentenceEnd_124
      · skip
        have c_2' : v3_1.toInt ≤ pl.toInt := jb_gt_n (rfl) (rfl) c_2
        refine lv_iload_n hx hb dX1_sentenceEnd_12 rfl (lv_at hl 2 rfl) ?_
        refine lv_aload_n hx hb dX1_sentenceEnd_13 rfl (lv_at hl 0 rfl) ?_
        refine j7_read hx hb hown hK (C := RX1) (T := TX1) (N := 17) rfl hly_3_3 hlk_42 (hh_1.at 0 rfl) dX1_sentenceEnd_14 ?_
        refine lv_icmp_ge (tgt := 123) hx hb dX1_sentenceEnd_17 (by decide) (fun c_3 => ?_) (fun c_3 => ?_)
        · skip
          have c_3' : v2_1.toInt ≥ pl.toInt := jb_ge (rfl) (rfl) c_3
          refine lv_iconst (v := (-1)) hx hb dX1_sentenceEnd_123 (by decide) ?_
          rw [hQ]
          exact W.iret (v := (-1)) hx hb hr (fun t ht hW => ⟨⟨(-1), (), rfl, by first | omega | rfl | assumption | decide | exact Or.inl rfl | exact Or.inr rfl | (simp only; omega), hh_1.rt (M1 := []) [] rfl ht⟩, by rw [ht]; try exact hh_1.1.1, fun q h9 hq => by rw [ht]; try exact hh_1.1.2.1 q h9 hq⟩) hh_1.1.2.2 dX1_sentenceEnd_124
        · skip
          have c_3' : v2_1.toInt < pl.toInt := jb_ge_n (rfl) (rfl) c_3
          refine lv_aload_n hx hb dX1_sentenceEnd_20 rfl (lv_at hl 0 rfl) ?_
          obtain ⟨v_4, hv_4, hh_5⟩ := hh_1.pin (C := RX1) (T := TX1) (N := 17) hB3 rfl (by decide) hg_r0 (i := 2) (by decide) rfl
          clear hh_1
          obtain ⟨text_6, rfl, hg_text_6⟩ := hv_4
          refine j7_read hx hb hown hK (C := RX1) (T := TX1) (N := 17) rfl hly_3_2 hlk_15 (hh_5.at 0 rfl) dX1_sentenceEnd_21 ?_
          refine lv_iload_n hx hb dX1_sentenceEnd_24 rfl (lv_at hl 2 rfl) ?_
          refine lv_aload_n hx hb dX1_sentenceEnd_25 rfl (lv_at hl 0 rfl) ?_
          refine j7_read hx hb hown hK (C := RX1) (T := TX1) (N := 17) rfl hly_3_3 hlk_42 (hh_5.at 1 rfl) dX1_sentenceEnd_26 ?_
          refine va_calli (A0 := jA base) (H0 := s.heap) (va_runSN (As := [.ref text_6, .int v2_1, .int pl]) (rest := []) ⟨hx, hb, hml, hown, hts⟩ (uX11_opensComment l dC dI ca base B hB hAp hB101 G0 H_1 text_6 v2_1 pl 1500) ⟨va_cnB 3 hts (jgW (jWr_36 _ (List.mem_of_getElem? (i := 14) rfl))) rfl rfl rfl (hG.2.2.1 RX1 94 yX11_opensComment "ProofServer" (List.mem_of_getElem? (i := 1130) (by decide +kernel))) (htw (.initialized RX11) (jWr_1 _ (List.mem_of_getElem? (i := 2) rfl))) (by decide +kernel) ⟨by rw [← hR]; exact Nat.le_of_ble_eq_true rfl, by rw [← hR]; exact Nat.le_of_ble_eq_true rfl⟩, htw (.static yX11_opensComment) (jWr_36 _ (List.mem_of_getElem? (i := 13) rfl)), trivial⟩ ⟨fun a U g mk q => by obtain ⟨q0, q1, q2, qK, q10, q11, q12⟩ := q; exact ⟨q0, q1, q2, jG.calling g mk a qK, q10, q11, q12⟩, fun U hU hW => ⟨rfl, hU, hh_5.2.1, hG.step hW hU hh_5.1, hg_text_6, jP.nil, by first | omega | (refine ⟨?_, ?_⟩ <;> (first | omega | rfl | assumption | decide | exact Or.inl rfl | exact Or.inr rfl | (simp only; omega)))⟩⟩ rfl rfl hl.1 rfl (lv_room (Nat.le_of_ble_eq_true rfl)) dX1_sentenceEnd_29 ⟨Nat.zero_le _, Nat.zero_le _⟩) hh_5.1 (fun q _ h => h) (fun q h => h) (fun r_8 u_7 t_7 H_7 locs_7 ht_7 hvm_7 hr_8 hb_7 hz_7 hk_7 hS_7 => ?_)
          rw [ht_7] at hb_7
          obtain ⟨hb_71, hb_72, hb_73, hb_74, hb_75⟩ := hb_7
          have hh_7 : jSt (dC, dI) B base G0 G0 EX1_sentenceEndS s.heap 0 0 [(r0, 3, 2, .ref text_6), (r0, 3, 3, .int pl)] [] [] H_7 locs_7 := ((hh_5.call hb_71 hb_72 hb_73 hb_74 hS_7 rfl (L1 := [(r0, 3, 2, .ref text_6), (r0, 3, 3, .int pl)]) [0, 1] rfl rfl (M1 := []) [] rfl rfl (I1 := []) [] rfl rfl).more hb_75)
          clear hh_5 ht_7 hvm_7 hz_7 hk_7 hS_7 hb_71 hb_72 hb_73 hb_74 hb_75
          obtain ⟨hr_8b, hr_8p⟩ := hr_8
          have hr_8' := jb_01 hr_8b
          refine lv_if_eq (tgt := 54) hx hb dX1_sentenceEnd_32 (by decide) (fun c_9 => ?_) (fun c_9 => ?_)
          · skip
            have c_9' : r_8.toInt = 0 := jb_eq (rfl) ((by decide)) c_9
            first | (have hr_8pq := hr_8p.resolve_left (by omega); clear hr_8p) | (have hr_8pq := hr_8p.resolve_right (by omega); clear hr_8p) | try clear hr_8p
            refine lv_aload_n hx hb dX1_sentenceEnd_54 rfl (lv_at hl 0 rfl) ?_
            refine j7_read hx hb hown hK (C := RX1) (T := TX1) (N := 17) rfl hly_3_2 hlk_15 (hh_7.at 0 rfl) dX1_sentenceEnd_55 ?_
            refine lv_iload_n hx hb dX1_sentenceEnd_58 rfl (lv_at hl 2 rfl) ?_
            refine j7_iald hx hb hK hh_7 hB101 1 rfl (by decide) hg_text_6 (x := v2_1.toInt) (rfl) (by omega) dX1_sentenceEnd_59 (fun z_10 (hz_10 : True) => ?_)
            refine lv_bipush (v := 46) hx hb dX1_sentenceEnd_60 (by decide) ?_
            have C70 : ∀ (w0_11 : Int32) (H_11 : Heap) (locs_11 : List Loc), jSt (dC, dI) B base G0 G0 EX1_sentenceEndS s.heap 0 0 [(r0, 3, 2, .ref text_6), (r0, 3, 3, .int pl)] [] [] H_11 locs_11 → (w0_11 = 0 ∨ w0_11 = 1) → (True) → ∀ ls : Array Slot, lv_has ls 5 [(0, .ref r0), (1, .int a1), (2, .int v2_1), (3, .int v3_1)] → W p l e R s m ([.ref r0, .int a1] : List Value).toArray below meth c H_11 locs_11 0 0 Q (F0 m 70 ls [.int w0_11]) := by
              intro w0_11 H_11 locs_11 hh_11 hb_w0_11 hi_11 ls hl
              have hb_w0_11' := jb_01 hb_w0_11
              refine lv_istore (lv' := [(4, .int w0_11), (0, .ref r0), (1, .int a1), (2, .int v2_1), (3, .int v3_1)]) hx hb dX1_sentenceEnd_70 hl (by decide) rfl (fun ls hl => ?_)
              obtain ⟨z_12, ez_12⟩ : ∃ y : Int32, y = v2_1 + 1 := ⟨_, rfl⟩
              refine lv_iinc (v := z_12) (lv' := [(2, .int z_12), (4, .int w0_11), (0, .ref r0), (1, .int a1), (3, .int v3_1)]) hx hb dX1_sentenceEnd_72 hl (k := 3) rfl (by rw [ez_12]; rfl) (by decide) rfl (fun ls hl => ?_)
              have hz_12 : z_12.toInt = v2_1.toInt + 1 := by rw [ez_12]; exact jb_iadd2 (rfl) (by decide) (by omega)
              refine lv_iload hx hb dX1_sentenceEnd_75 (lv_at hl 1 rfl) ?_
              refine lv_if_eq (tgt := 117) hx hb dX1_sentenceEnd_77 (by decide) (fun c_13 => ?_) (fun c_13 => ?_)
              · skip
                have c_13' : w0_11.toInt = 0 := jb_eq (rfl) ((by decide)) c_13
                obtain ⟨z_14, ez_14⟩ : ∃ y : Int32, y = v3_1 + 1 := ⟨_, rfl⟩
                refine lv_iinc (v := z_14) (lv' := [(3, .int z_14), (2, .int z_12), (4, .int w0_11), (0, .ref r0), (1, .int a1)]) hx hb dX1_sentenceEnd_117 hl (k := 4) rfl (by rw [ez_14]; rfl) (by decide) rfl (fun ls hl => ?_)
                have hz_14 : z_14.toInt = v3_1.toInt + 1 := by rw [ez_14]; exact jb_iadd2 (rfl) (by decide) (by omega)
                refine lv_goto (tgt := 4) hx hb dX1_sentenceEnd_120 (by decide) ?_
                exact L4 z_12 z_14 _ _ (hh_11.sub (L1 := [(r0, 3, 3, .int pl)]) [1] rfl (M1 := []) [] rfl (I1 := []) [] rfl) (by first | omega | (refine ⟨?_, ?_, ?_, ?_⟩ <;> (first | omega | rfl | assumption | decide | exact Or.inl rfl | exact Or.inr rfl | (simp only; omega)))) (by omega) _ (lv_sub hl [3, 4, 1, 0] rfl)
              · skip
                have c_13' : w0_11.toInt ≠ 0 := jb_eq_n (rfl) ((by decide)) c_13
                refine lv_iload_n hx hb dX1_sentenceEnd_80 rfl (lv_at hl 0 rfl) ?_
                refine lv_aload_n hx hb dX1_sentenceEnd_81 rfl (lv_at hl 2 rfl) ?_
                refine j7_read hx hb hown hK (C := RX1) (T := TX1) (N := 17) rfl hly_3_3 hlk_42 (hh_11.at 1 rfl) dX1_sentenceEnd_82 ?_
                refine lv_icmp_eq (tgt := 115) hx hb dX1_sentenceEnd_85 (by decide) (fun c_15 => ?_) (fun c_15 => ?_)
                · skip
                  have c_15' : z_12.toInt = pl.toInt := jb_eq (rfl) (rfl) c_15
                  refine lv_iload_n hx hb dX1_sentenceEnd_115 rfl (lv_at hl 0 rfl) ?_
                  rw [hQ]
                  exact W.iret (v := z_12) hx hb hr (fun t ht hW => ⟨⟨z_12, (), rfl, by first | omega | rfl | assumption | decide | exact Or.inl rfl | exact Or.inr rfl | (simp only; omega), hh_11.rt (M1 := []) [] rfl ht⟩, by rw [ht]; try exact hh_11.1.1, fun q h9 hq => by rw [ht]; try exact hh_11.1.2.1 q h9 hq⟩) hh_11.1.2.2 dX1_sentenceEnd_116
                · skip
                  have c_15' : z_12.toInt ≠ pl.toInt := jb_eq_n (rfl) (rfl) c_15
                  refine lv_aload_n hx hb dX1_sentenceEnd_88 rfl (lv_at hl 2 rfl) ?_
                  refine j7_read hx hb hown hK (C := RX1) (T := TX1) (N := 17) rfl hly_3_2 hlk_15 (hh_11.at 0 rfl) dX1_sentenceEnd_89 ?_
                  refine lv_iload_n hx hb dX1_sentenceEnd_92 rfl (lv_at hl 0 rfl) ?_
                  refine j7_iald hx hb hK hh_11 hB101 1 rfl (by decide) hg_text_6 (x := z_12.toInt) (rfl) (by omega) dX1_sentenceEnd_93 (fun z_16 (hz_16 : True) => ?_)
                  refine vp_callSi (va_Run.run (va_runSN (As := [.int z_16]) (rest := []) ⟨hx, hb, hml, hown, hts⟩ (wX11_isBlank l dC dI ca base H_11 z_16) ⟨va_cnB 1 hts (jgW (jWr_20 _ (List.mem_of_getElem? (i := 0) rfl))) rfl rfl rfl (hG.2.2.1 RX1 87 yX11_isBlank "ProofServer" (List.mem_of_getElem? (i := 1119) (by decide +kernel))) (htw (.initialized RX11) (jWr_1 _ (List.mem_of_getElem? (i := 2) rfl))) (by decide +kernel) ⟨by rw [← hR]; exact Nat.le_of_ble_eq_true rfl, by rw [← hR]; exact Nat.le_of_ble_eq_true rfl⟩, htw (.static yX11_isBlank) (jWr_19 _ (List.mem_of_getElem? (i := 23) rfl)), trivial⟩ ⟨fun a U g mk q => by obtain ⟨q0, q1, qK, q9⟩ := q; exact ⟨q0, q1, jG.calling g mk a qK, q9⟩, fun U hU hW => ⟨rfl, hU, hG.step hW hU hh_11.1, by first | trivial | omega | (constructor <;> omega)⟩⟩ rfl rfl hl.1 rfl (lv_room (Nat.le_of_ble_eq_true rfl)) dX1_sentenceEnd_94 ⟨Nat.zero_le _, Nat.zero_le _⟩)) (fun r_17 hr_17 => ?_)
                  have hr_17' : r_17.toInt = 0 ∨ r_17.toInt = 1 := jb_01 hr_17
                  refine lv_if_ne (tgt := 115) hx hb dX1_sentenceEnd_97 (by decide) (fun c_18 => ?_) (fun c_18 => ?_)
                  · skip
                    have c_18' : r_17.toInt ≠ 0 := jb_ne (rfl) ((by decide)) c_18
                    refine lv_iload_n hx hb dX1_sentenceEnd_115 rfl (lv_at hl 0 rfl) ?_
                    rw [hQ]
                    exact W.iret (v := z_12) hx hb hr (fun t ht hW => ⟨⟨z_12, (), rfl, by first | omega | rfl | assumption | decide | exact Or.inl rfl | exact Or.inr rfl | (simp only; omega), hh_11.rt (M1 := []) [] rfl ht⟩, by rw [ht]; try exact hh_11.1.1, fun q h9 hq => by rw [ht]; try exact hh_11.1.2.1 q h9 hq⟩) hh_11.1.2.2 dX1_sentenceEnd_116
                  · skip
                    have c_18' : r_17.toInt = 0 := jb_ne_n (rfl) ((by decide)) c_18
                    refine lv_aload_n hx hb dX1_sentenceEnd_100 rfl (lv_at hl 2 rfl) ?_
                    refine j7_read hx hb hown hK (C := RX1) (T := TX1) (N := 17) rfl hly_3_2 hlk_15 (hh_11.at 0 rfl) dX1_sentenceEnd_101 ?_
                    refine lv_iload_n hx hb dX1_sentenceEnd_104 rfl (lv_at hl 0 rfl) ?_
                    refine lv_aload_n hx hb dX1_sentenceEnd_105 rfl (lv_at hl 2 rfl) ?_
                    refine j7_read hx hb hown hK (C := RX1) (T := TX1) (N := 17) rfl hly_3_3 hlk_42 (hh_11.at 1 rfl) dX1_sentenceEnd_106 ?_
                    refine va_calli (A0 := jA base) (H0 := s.heap) (va_runSN (As := [.ref text_6, .int z_12, .int pl]) (rest := []) ⟨hx, hb, hml, hown, hts⟩ (uX11_opensComment l dC dI ca base B hB hAp hB101 G0 H_11 text_6 z_12 pl 1500) ⟨va_cnB 3 hts (jgW (jWr_36 _ (List.mem_of_getElem? (i := 14) rfl))) rfl rfl rfl (hG.2.2.1 RX1 94 yX11_opensComment "ProofServer" (List.mem_of_getElem? (i := 1130) (by decide +kernel))) (htw (.initialized RX11) (jWr_1 _ (List.mem_of_getElem? (i := 2) rfl))) (by decide +kernel) ⟨by rw [← hR]; exact Nat.le_of_ble_eq_true rfl, by rw [← hR]; exact Nat.le_of_ble_eq_true rfl⟩, htw (.static yX11_opensComment) (jWr_36 _ (List.mem_of_getElem? (i := 13) rfl)), trivial⟩ ⟨fun a U g mk q => by obtain ⟨q0, q1, q2, qK, q10, q11, q12⟩ := q; exact ⟨q0, q1, q2, jG.calling g mk a qK, q10, q11, q12⟩, fun U hU hW => ⟨rfl, hU, hh_11.2.1, hG.step hW hU hh_11.1, hg_text_6, jP.nil, by first | omega | (refine ⟨?_, ?_⟩ <;> (first | omega | rfl | assumption | decide | exact Or.inl rfl | exact Or.inr rfl | (simp only; omega)))⟩⟩ rfl rfl hl.1 rfl (lv_room (Nat.le_of_ble_eq_true rfl)) dX1_sentenceEnd_109 ⟨Nat.zero_le _, Nat.zero_le _⟩) hh_11.1 (fun q _ h => h) (fun q h => h) (fun r_20 u_19 t_19 H_19 locs_19 ht_19 hvm_19 hr_20 hb_19 hz_19 hk_19 hS_19 => ?_)
                    rw [ht_19] at hb_19
                    obtain ⟨hb_191, hb_192, hb_193, hb_194, hb_195⟩ := hb_19
                    have hh_19 : jSt (dC, dI) B base G0 G0 EX1_sentenceEndS s.heap 0 0 [(r0, 3, 2, .ref text_6), (r0, 3, 3, .int pl)] [] [] H_19 locs_19 := ((hh_11.call hb_191 hb_192 hb_193 hb_194 hS_19 rfl (L1 := [(r0, 3, 2, .ref text_6), (r0, 3, 3, .int pl)]) [0, 1] rfl rfl (M1 := []) [] rfl rfl (I1 := []) [] rfl rfl).more hb_195)
                    clear hh_11 ht_19 hvm_19 hz_19 hk_19 hS_19 hb_191 hb_192 hb_193 hb_194 hb_195
                    obtain ⟨hr_20b, hr_20p⟩ := hr_20
                    have hr_20' := jb_01 hr_20b
                    refine lv_if_eq (tgt := 117) hx hb dX1_sentenceEnd_112 (by decide) (fun c_21 => ?_) (fun c_21 => ?_)
                    · skip
                      have c_21' : r_20.toInt = 0 := jb_eq (rfl) ((by decide)) c_21
                      first | (have hr_20pq := hr_20p.resolve_left (by omega); clear hr_20p) | (have hr_20pq := hr_20p.resolve_right (by omega); clear hr_20p) | try clear hr_20p
                      obtain ⟨z_22, ez_22⟩ : ∃ y : Int32, y = v3_1 + 1 := ⟨_, rfl⟩
                      refine lv_iinc (v := z_22) (lv' := [(3, .int z_22), (2, .int z_12), (4, .int w0_11), (0, .ref r0), (1, .int a1)]) hx hb dX1_sentenceEnd_117 hl (k := 4) rfl (by rw [ez_22]; rfl) (by decide) rfl (fun ls hl => ?_)
                      have hz_22 : z_22.toInt = v3_1.toInt + 1 := by rw [ez_22]; exact jb_iadd2 (rfl) (by decide) (by omega)
                      refine lv_goto (tgt := 4) hx hb dX1_sentenceEnd_120 (by decide) ?_
                      exact L4 z_12 z_22 _ _ (hh_19.sub (L1 := [(r0, 3, 3, .int pl)]) [1] rfl (M1 := []) [] rfl (I1 := []) [] rfl) (by first | omega | (refine ⟨?_, ?_, ?_, ?_⟩ <;> (first | omega | rfl | assumption | decide | exact Or.inl rfl | exact Or.inr rfl | (simp only; omega)))) (by omega) _ (lv_sub hl [3, 4, 1, 0] rfl)
                    · skip
                      have c_21' : r_20.toInt ≠ 0 := jb_eq_n (rfl) ((by decide)) c_21
                      first | (have hr_20pq := hr_20p.resolve_left (by omega); clear hr_20p) | (have hr_20pq := hr_20p.resolve_right (by omega); clear hr_20p) | try clear hr_20p
                      refine lv_iload_n hx hb dX1_sentenceEnd_115 rfl (lv_at hl 0 rfl) ?_
                      rw [hQ]
                      exact W.iret (v := z_12) hx hb hr (fun t ht hW => ⟨⟨z_12, (), rfl, by first | omega | rfl | assumption | decide | exact Or.inl rfl | exact Or.inr rfl | (simp only; omega), hh_19.rt (M1 := []) [] rfl ht⟩, by rw [ht]; try exact hh_19.1.1, fun q h9 hq => by rw [ht]; try exact hh_19.1.2.1 q h9 hq⟩) hh_19.1.2.2 dX1_sentenceEnd_116
            refine lv_icmp_ne (tgt := 69) hx hb dX1_sentenceEnd_62 (by decide) (fun c_23 => ?_) (fun c_23 => ?_)
            · skip
              have c_23' : z_10.toInt ≠ 46 := jb_ne (rfl) ((by decide)) c_23
              refine lv_iconst (v := 0) hx hb dX1_sentenceEnd_69 (by decide) ?_
              exact C70 0 _ _ hh_7 (Or.inl rfl) (trivial) _ (lv_sub hl [0, 1, 2, 3] rfl)
            · skip
              have c_23' : z_10.toInt = 46 := jb_ne_n (rfl) ((by decide)) c_23
              refine lv_iconst (v := 1) hx hb dX1_sentenceEnd_65 (by decide) ?_
              refine lv_goto (tgt := 70) hx hb dX1_sentenceEnd_66 (by decide) ?_
              exact C70 1 _ _ hh_7 (Or.inr rfl) (trivial) _ (lv_sub hl [0, 1, 2, 3] rfl)
          · skip
            have c_9' : r_8.toInt ≠ 0 := jb_eq_n (rfl) ((by decide)) c_9
            first | (have hr_8pq := hr_8p.resolve_left (by omega); clear hr_8p) | (have hr_8pq := hr_8p.resolve_right (by omega); clear hr_8p) | try clear hr_8p
            refine lv_aload_n hx hb dX1_sentenceEnd_35 rfl (lv_at hl 0 rfl) ?_
            refine j7_read hx hb hown hK (C := RX1) (T := TX1) (N := 17) rfl hly_3_2 hlk_15 (hh_7.at 0 rfl) dX1_sentenceEnd_36 ?_
            refine lv_iload_n hx hb dX1_sentenceEnd_39 rfl (lv_at hl 2 rfl) ?_
            refine lv_aload_n hx hb dX1_sentenceEnd_40 rfl (lv_at hl 0 rfl) ?_
            refine j7_read hx hb hown hK (C := RX1) (T := TX1) (N := 17) rfl hly_3_3 hlk_42 (hh_7.at 1 rfl) dX1_sentenceEnd_41 ?_
            refine va_calli (A0 := jA base) (H0 := s.heap) (va_runSN (As := [.ref text_6, .int v2_1, .int pl]) (rest := []) ⟨hx, hb, hml, hown, hts⟩ (uX11_commentEnd l dC dI ca base B hB hAp hB101 G0 H_7 text_6 v2_1 pl 1500) ⟨va_cnB 3 hts (jgW (jWr_36 _ (List.mem_of_getElem? (i := 11) rfl))) rfl rfl rfl (hG.2.2.1 RX1 91 yX11_commentEnd "ProofServer" (List.mem_of_getElem? (i := 1120) (by decide +kernel))) (htw (.initialized RX11) (jWr_1 _ (List.mem_of_getElem? (i := 2) rfl))) (by decide +kernel) ⟨by rw [← hR]; exact Nat.le_of_ble_eq_true rfl, by rw [← hR]; exact Nat.le_of_ble_eq_true rfl⟩, htw (.static yX11_commentEnd) (jWr_36 _ (List.mem_of_getElem? (i := 10) rfl)), trivial⟩ ⟨fun a U g mk q => by obtain ⟨q0, q1, q2, qK, q10, q11, q12⟩ := q; exact ⟨q0, q1, q2, jG.calling g mk a qK, q10, q11, q12⟩, fun U hU hW => ⟨rfl, hU, hh_7.2.1, hG.step hW hU hh_7.1, hg_text_6, jP.nil, by first | omega | (refine ⟨?_, ?_⟩ <;> (first | omega | rfl | assumption | decide | exact Or.inl rfl | exact Or.inr rfl | (simp only; omega)))⟩⟩ rfl rfl hl.1 rfl (lv_room (Nat.le_of_ble_eq_true rfl)) dX1_sentenceEnd_44 ⟨Nat.zero_le _, Nat.zero_le _⟩) hh_7.1 (fun q _ h => h) (fun q h => h) (fun r_25 u_24 t_24 H_24 locs_24 ht_24 hvm_24 hr_25 hb_24 hz_24 hk_24 hS_24 => ?_)
            rw [ht_24] at hb_24
            obtain ⟨hb_241, hb_242, hb_243, hb_244, hb_245⟩ := hb_24
            have hh_24 : jSt (dC, dI) B base G0 G0 EX1_sentenceEndS s.heap 0 0 [(r0, 3, 2, .ref text_6), (r0, 3, 3, .int pl)] [] [] H_24 locs_24 := ((hh_7.call hb_241 hb_242 hb_243 hb_244 hS_24 rfl (L1 := [(r0, 3, 2, .ref text_6), (r0, 3, 3, .int pl)]) [0, 1] rfl rfl (M1 := []) [] rfl rfl (I1 := []) [] rfl rfl).more hb_245)
            clear hh_7 ht_24 hvm_24 hz_24 hk_24 hS_24 hb_241 hb_242 hb_243 hb_244 hb_245
            refine lv_istore_n (lv' := [(2, .int r_25), (0, .ref r0), (1, .int a1), (3, .int v3_1)]) hx hb dX1_sentenceEnd_47 rfl hl (by decide) rfl (fun ls hl => ?_)
            refine lv_iload_n hx hb dX1_sentenceEnd_48 rfl (lv_at hl 0 rfl) ?_
            refine lv_if_ge (tgt := 117) hx hb dX1_sentenceEnd_49 (by decide) (fun c_26 => ?_) (fun c_26 => ?_)
            · skip
              have c_26' : r_25.toInt ≥ 0 := jb_ge (rfl) ((by decide)) c_26
              first | (have hr_25q := hr_25.resolve_left (by omega); clear hr_25) | (have hr_25q := hr_25.resolve_right (by omega); clear hr_25) | skip
              obtain ⟨z_27, ez_27⟩ : ∃ y : Int32, y = v3_1 + 1 := ⟨_, rfl⟩
              refine lv_iinc (v := z_27) (lv' := [(3, .int z_27), (2, .int r_25), (0, .ref r0), (1, .int a1)]) hx hb dX1_sentenceEnd_117 hl (k := 3) rfl (by rw [ez_27]; rfl) (by decide) rfl (fun ls hl => ?_)
              have hz_27 : z_27.toInt = v3_1.toInt + 1 := by rw [ez_27]; exact jb_iadd2 (rfl) (by decide) (by omega)
              refine lv_goto (tgt := 4) hx hb dX1_sentenceEnd_120 (by decide) ?_
              exact L4 r_25 z_27 _ _ (hh_24.sub (L1 := [(r0, 3, 3, .int pl)]) [1] rfl (M1 := []) [] rfl (I1 := []) [] rfl) (by first | omega | (refine ⟨?_, ?_, ?_, ?_⟩ <;> (first | omega | rfl | assumption | decide | exact Or.inl rfl | exact Or.inr rfl | (simp only; omega)))) (by omega) _ (lv_sub hl [2, 3, 1, 0] rfl)
            · skip
              have c_26' : r_25.toInt < 0 := jb_ge_n (rfl) ((by decide)) c_26
              first | (have hr_25q := hr_25.resolve_left (by omega); clear hr_25) | (have hr_25q := hr_25.resolve_right (by omega); clear hr_25) | skip
              refine lv_iconst (v := (-1)) hx hb dX1_sentenceEnd_52 (by decide) ?_
              rw [hQ]
              exact W.iret (v := (-1)) hx hb hr (fun t ht hW => ⟨⟨(-1), (), rfl, by first | omega | rfl | assumption | decide | exact Or.inl rfl | exact Or.inr rfl | (simp only; omega), hh_24.rt (M1 := []) [] rfl ht⟩, by rw [ht]; try exact hh_24.1.1, fun q h9 hq => by rw [ht]; try exact hh_24.1.2.1 q h9 hq⟩) hh_24.1.2.2 dX1_sentenceEnd_53
  exact L4 (1502 - (0 : Int32).toInt : Int).toNat.succ a1 0 _ _ hh (by first | omega | (refine ⟨?_, ?_, ?_, ?_⟩ <;> (first | omega | rfl | assumption | decide | exact Or.inl rfl | exact Or.inr rfl | (simp only; omega)))) (by omega) _ (lv_sub hl [2, 3, 1, 0] rfl)
