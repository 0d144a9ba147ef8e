section
theorem jWr_75 : ∀ w ∈ wsL_law_r75, w ∈ jWl := fun w h => jT75 w (List.mem_append_left _ h)
end
section
theorem dX14_isString__0 : decode cX14_isString_ 0 = .ok (.aload_n 0, 1) := by decide +kernel
theorem dX14_isString__1 : decode cX14_isString_ 1 = .ok (.iload_n 1, 1) := by decide +kernel
theorem dX14_isString__2 : decode cX14_isString_ 2 = .ok (.invokevirtual 368, 3) := by decide +kernel
theorem dX14_isString__5 : decode cX14_isString_ 5 = .ok (.ifCond .eq 27, 3) := by decide +kernel
theorem dX14_isString__8 : decode cX14_isString_ 8 = .ok (.aload_n 0, 1) := by decide +kernel
theorem dX14_isString__9 : decode cX14_isString_ 9 = .ok (.aload_n 0, 1) := by decide +kernel
theorem dX14_isString__10 : decode cX14_isString_ 10 = .ok (.getfield 52, 3) := by decide +kernel
theorem dX14_isString__13 : decode cX14_isString_ 13 = .ok (.iload_n 1, 1) := by decide +kernel
theorem dX14_isString__14 : decode cX14_isString_ 14 = .ok (.iaload, 1) := by decide +kernel
theorem dX14_isString__15 : decode cX14_isString_ 15 = .ok (.aload_n 0, 1) := by decide +kernel
theorem dX14_isString__16 : decode cX14_isString_ 16 = .ok (.getfield 55, 3) := by decide +kernel
theorem dX14_isString__19 : decode cX14_isString_ 19 = .ok (.iload_n 1, 1) := by decide +kernel
theorem dX14_isString__20 : decode cX14_isString_ 20 = .ok (.iaload, 1) := by decide +kernel
theorem dX14_isString__21 : decode cX14_isString_ 21 = .ok (.aload_n 2, 1) := by decide +kernel
theorem dX14_isString__22 : decode cX14_isString_ 22 = .ok (.invokevirtual 364, 3) := by decide +kernel
theorem dX14_isString__25 : decode cX14_isString_ 25 = .ok (.ifCond .eq 7, 3) := by decide +kernel
theorem dX14_isString__28 : decode cX14_isString_ 28 = .ok (.iconst 1, 1) := by decide +kernel
theorem dX14_isString__29 : decode cX14_isString_ 29 = .ok (.goto 4, 3) := by decide +kernel
theorem dX14_isString__32 : decode cX14_isString_ 32 = .ok (.iconst 0, 1) := by decide +kernel
theorem dX14_isString__33 : decode cX14_isString_ 33 = .ok (.ireturn, 1) := by decide +kernel
theorem dX14_isId_0 : decode cX14_isId 0 = .ok (.aload_n 0, 1) := by decide +kernel
theorem dX14_isId_1 : decode cX14_isId 1 = .ok (.iload_n 1, 1) := by decide +kernel
theorem dX14_isId_2 : decode cX14_isId 2 = .ok (.invokevirtual 371, 3) := by decide +kernel
theorem dX14_isId_5 : decode cX14_isId 5 = .ok (.ifCond .ne 29, 3) := by decide +kernel
theorem dX14_isId_8 : decode cX14_isId 8 = .ok (.aload_n 0, 1) := by decide +kernel
theorem dX14_isId_9 : decode cX14_isId 9 = .ok (.iload_n 1, 1) := by decide +kernel
theorem dX14_isId_10 : decode cX14_isId 10 = .ok (.invokevirtual 368, 3) := by decide +kernel
theorem dX14_isId_13 : decode cX14_isId 13 = .ok (.ifCond .eq 25, 3) := by decide +kernel
theorem dX14_isId_16 : decode cX14_isId 16 = .ok (.aload_n 0, 1) := by decide +kernel
theorem dX14_isId_17 : decode cX14_isId 17 = .ok (.getfield 55, 3) := by decide +kernel
theorem dX14_isId_20 : decode cX14_isId 20 = .ok (.iload_n 1, 1) := by decide +kernel
theorem dX14_isId_21 : decode cX14_isId 21 = .ok (.iaload, 1) := by decide +kernel
theorem dX14_isId_22 : decode cX14_isId 22 = .ok (.aload_n 0, 1) := by decide +kernel
theorem dX14_isId_23 : decode cX14_isId 23 = .ok (.getfield 52, 3) := by decide +kernel
theorem dX14_isId_26 : decode cX14_isId 26 = .ok (.iload_n 1, 1) := by decide +kernel
theorem dX14_isId_27 : decode cX14_isId 27 = .ok (.iaload, 1) := by decide +kernel
theorem dX14_isId_28 : decode cX14_isId 28 = .ok (.isub, 1) := by decide +kernel
theorem dX14_isId_29 : decode cX14_isId 29 = .ok (.bipush 20, 2) := by decide +kernel
theorem dX14_isId_31 : decode cX14_isId 31 = .ok (.if_icmp .gt 7, 3) := by decide +kernel
theorem dX14_isId_34 : decode cX14_isId 34 = .ok (.iconst 1, 1) := by decide +kernel
theorem dX14_isId_35 : decode cX14_isId 35 = .ok (.goto 4, 3) := by decide +kernel
theorem dX14_isId_38 : decode cX14_isId 38 = .ok (.iconst 0, 1) := by decide +kernel
theorem dX14_isId_39 : decode cX14_isId 39 = .ok (.ireturn, 1) := by decide +kernel
end
section
def EX14_placeOfv9 : List (Nat × Nat) := []
set_option maxHeartbeats 4000000 in
set_option maxRecDepth 20000 in
theorem uX14_placeOfv9 (l : Launch) (dC : Nat → ClassId) (dI : Nat → Nat → Nat) (ca : Nat → ClassId) (base : Nat) (B : jF) (hB : jBok B) (hAp : jAp (dC, dI)) (hB101 : ∀ n G a H, B 101 n G a H ↔ jAr (dC, dI) (ca 1) (fun j z => True) n a H) (hB194 : ∀ n G a H, B 194 n G a H ↔ jAr (dC, dI) (ca 1) (fun j z => True) n a H) (G0 : jT) (H0 : Heap) (r0 : Nat) (a1 : Int32) (a2 : Int32) (a3 : Int32) (n0 : Nat) : Met l yX14_placeOf (jw yX14_placeOf cX14_placeOf 6 (some .int)) ({ frames := 1, cells := 0, slots := 0, locals := 24 }) (va_Pc [.ref r0, .int a1, .int a2, .int a3] (fun U => U.heap = H0 ∧ jX B base G0 [] H0 ∧ jG dC dI ca base U ∧ G0 r0 = some (194, n0) ∧ jP (dC, dI) G0 H0 [] ∧ 0 ≤ a1.toInt ∧ a1.toInt ≤ n0 ∧ n0 ≤ 200000)) (va_Qi (S := Unit) (fun r u => (-1 ≤ r.toInt ∧ r.toInt ≤ a1.toInt)) (fun u t => jRt (dC, dI) B base G0 EX14_placeOfv9 H0 [] t.heap) (jA base)) 0 0 (jA base) := by
  refine Met.ofW (cc := cX14_placeOf) (maxL := 6) (ret := (some .int)) (by decide) rfl ?_
  intro p e s m args below meth c s₁ Bd hml hv
  obtain ⟨rfl, hH0, hX, hG, hg_r0, hP0, hp0, hp1, hp2⟩ := hv
  have hK := hG.1
  have hx := Bd.exec
  have hb := Bd.bytes
  have hr := Bd.returns
  have hts := atoms_spec (ws := (jw yX14_placeOf cX14_placeOf 6 (some .int))) Bd.pre
  have htw : ∀ w ∈ jWl, w.before _ s = true := fun w h => hts w (List.mem_cons_of_mem _ h)
  have hown : s.vm.findClass RX14 = some m.cls := findClass_of_methodNamed Bd.named
  have hlocks := Bd.notSynchronized
  obtain ⟨Q, hQ⟩ : ∃ Q, Q = MQ below (va_Qi (S := Unit) (fun r u => (-1 ≤ r.toInt ∧ r.toInt ≤ a1.toInt)) (fun u t => jRt (dC, dI) B base G0 EX14_placeOfv9 H0 [] t.heap) (jA base)) ([.ref r0, .int a1, .int a2, .int a3] : List Value).toArray s 0 0 (jA base) := ⟨_, rfl⟩
  rw [← hQ]
  have hl := lv_entry ([.ref r0, .int a1, .int a2, .int a3]) (n := 6) (Nat.le_of_ble_eq_true rfl)
  rw [lg_entry_eq]
  generalize (lg_sl ([.ref r0, .int a1, .int a2, .int a3]) ++ List.replicate (6 - (lg_sl ([.ref r0, .int a1, .int a2, .int a3])).length) Slot.unset).toArray = ls at hl ⊢
  have hl : lv_has ls 6 [(0, .ref r0), (1, .int a1), (2, .int a2), (3, .int a3)] := hl
  generalize hR : (headSpec (jw yX14_placeOf cX14_placeOf 6 (some .int)) ({ frames := 1, cells := 0, slots := 0, locals := 24 })).room = R
  subst hH0
  have hh : jSt (dC, dI) B base G0 G0 EX14_placeOfv9 s.heap 0 0 [] [] [] s.heap [] := jSt.start hX hP0 jMc.nil jIs.nil
  clear hX hP0
  have hkm1 : ((-1) : Int32).toInt = (-1) := by decide
  have hk0 : (0 : Int32).toInt = 0 := by decide
  have hk1 : (1 : Int32).toInt = 1 := by decide
  have hk10 : (10 : Int32).toInt = 10 := by decide
  have hk13 : (13 : Int32).toInt = 13 := by decide
  have hrg_a1 := jb_rng a1
  have hrg_a2 := jb_rng a2
  have hrg_a3 := jb_rng a3
  refine lv_aload_n hx hb dX14_placeOf_0 rfl (lv_at hl 0 rfl) ?_
  refine lv_iload_n hx hb dX14_placeOf_1 rfl (lv_at hl 1 rfl) ?_
  refine lv_iload_n hx hb dX14_placeOf_2 rfl (lv_at hl 2 rfl) ?_
  refine va_calli (A0 := jA base) (H0 := s.heap) (va_runS (As := [.ref r0, .int a1, .int a2]) (rest := []) ⟨hx, hb, hml, hown, hts⟩ (uX14_lineBeginv9 l dC dI ca base B hB hAp hB194 G0 s.heap r0 a1 a2 n0) (va_cwS 3 hts (jgS (jWr_58 _ (List.mem_of_getElem? (i := 20) rfl)) (jWr_58 _ (List.mem_of_getElem? (i := 21) rfl)) (jWr_1 _ (List.mem_of_getElem? (i := 5) rfl)) (jWr_58 _ (List.mem_of_getElem? (i := 22) rfl))) rfl rfl rfl (by decide +kernel) ⟨by rw [← hR]; exact Nat.le_of_ble_eq_true rfl, by rw [← hR]; exact Nat.le_of_ble_eq_true rfl⟩) ⟨fun a U g mk q => by obtain ⟨q0, q1, q2, qK, q10, q11, q12⟩ := q; exact ⟨q0, q1, q2, jG.calling g mk a qK, q10, q11, q12⟩, fun U hU hW => ⟨rfl, hU, hh.2.1, hG.step hW hU hh.1, hg_r0, jP.nil, by first | omega | (refine ⟨?_, ?_, ?_⟩ <;> (first | omega | rfl | assumption | decide | exact Or.inl rfl | exact Or.inr rfl | (simp only; omega)))⟩⟩ rfl rfl hl.1 rfl (lv_room (Nat.le_of_ble_eq_true rfl)) dX14_placeOf_3 ⟨Nat.zero_le _, Nat.zero_le _⟩) hh.1 (fun q _ h => h) (fun q h => h) (fun r_2 u_1 t_1 H_1 locs_1 ht_1 hvm_1 hr_2 hb_1 hz_1 hk_1 hS_1 => ?_)
  rw [ht_1] at hb_1
  obtain ⟨hb_11, hb_12, hb_13, hb_14, hb_15⟩ := hb_1
  have hh_1 : jSt (dC, dI) B base G0 G0 EX14_placeOfv9 s.heap 0 0 [] [] [] H_1 locs_1 := ((hh.call hb_11 hb_12 hb_13 hb_14 hS_1 rfl (L1 := []) [] rfl rfl (M1 := []) [] rfl rfl (I1 := []) [] rfl rfl).more hb_15)
  clear hh ht_1 hvm_1 hz_1 hk_1 hS_1 hb_11 hb_12 hb_13 hb_14 hb_15
  obtain ⟨hr_2_0, hr_2_1, hr_2_2⟩ := hr_2
  refine lv_istore (lv' := [(4, .int r_2), (0, .ref r0), (1, .int a1), (2, .int a2), (3, .int a3)]) hx hb dX14_placeOf_6 hl (by decide) rfl (fun ls hl => ?_)
  refine lv_iload hx hb dX14_placeOf_8 (lv_at hl 0 rfl) ?_
  refine lv_if_ge (tgt := 15) hx hb dX14_placeOf_10 (by decide) (fun c_3 => ?_) (fun c_3 => ?_)
  · skip
    have c_3' : r_2.toInt ≥ 0 := jb_ge (rfl) ((by decide)) c_3
    first | (have hr_2_2q := hr_2_2.resolve_left (by omega); clear hr_2_2) | (have hr_2_2q := hr_2_2.resolve_right (by omega); clear hr_2_2) | skip
    refine lv_iload hx hb dX14_placeOf_15 (lv_at hl 0 rfl) ?_
    refine lv_istore (lv' := [(5, .int r_2), (4, .int r_2), (0, .ref r0), (1, .int a1), (2, .int a2), (3, .int a3)]) hx hb dX14_placeOf_17 hl (by decide) rfl (fun ls hl => ?_)
    have L19 : ∀ (N : Nat) (v5_4 : Int32) (H_4 : Heap) (locs_4 : List Loc), jSt (dC, dI) B base G0 G0 EX14_placeOfv9 s.heap 0 0 [] [] [] H_4 locs_4 → (r_2.toInt ≤ v5_4.toInt ∧ v5_4.toInt ≤ a1.toInt) → (a1.toInt - v5_4.toInt : Int) < N → ∀ ls : Array Slot, lv_has ls 6 [(0, .ref r0), (1, .int a1), (2, .int a2), (3, .int a3), (4, .int r_2), (5, .int v5_4)] → W p l e R s m ([.ref r0, .int a1, .int a2, .int a3] : List Value).toArray below meth c H_4 locs_4 0 0 Q (F0 m 19 ls []) := by
      intro N
      induction N with
      | zero => intro v5_4 H_4 locs_4 hh_4  hi_4 hm; exact absurd hm (by omega)
      | succ N L19 =>
        intro v5_4 H_4 locs_4 hh_4  hi_4 hm_4 ls hl
        obtain ⟨hi_4_0, hi_4_1⟩ := hi_4
        try clear hr_2_2
        refine lv_iload hx hb dX14_placeOf_19 (lv_at hl 5 rfl) ?_
        refine lv_iload_n hx hb dX14_placeOf_21 rfl (lv_at hl 1 rfl) ?_
        refine lv_icmp_ge (tgt := 58) hx hb dX14_placeOf_22 (by decide) (fun c_5 => ?_) (fun c_5 => ?_)
        · skip
          have c_5' : v5_4.toInt ≥ a1.toInt := jb_ge (rfl) (rfl) c_5
          refine lv_iload hx hb dX14_placeOf_58 (lv_at hl 5 rfl) ?_
          rw [hQ]
          exact W.iret (v := v5_4) hx hb hr (fun t ht hW => ⟨⟨v5_4, (), rfl, by first | omega | (refine ⟨?_, ?_⟩ <;> (first | omega | rfl | assumption | decide | exact Or.inl rfl | exact Or.inr rfl | (simp only; omega))), hh_4.rt (M1 := []) [] rfl ht⟩, by rw [ht]; try exact hh_4.1.1, fun q h9 hq => by rw [ht]; try exact hh_4.1.2.1 q h9 hq⟩) hh_4.1.2.2 dX14_placeOf_60
        · skip
          have c_5' : v5_4.toInt < a1.toInt := jb_ge_n (rfl) (rfl) c_5
          refine lv_iload hx hb dX14_placeOf_25 (lv_at hl 5 rfl) ?_
          refine lv_iload hx hb dX14_placeOf_27 (lv_at hl 4 rfl) ?_
          refine lv_isub hx hb dX14_placeOf_29 ?_
          refine lv_topi (fun z_6 ez_6 => ?_)
          have hz_6 : z_6.toInt = v5_4.toInt - r_2.toInt := by rw [ez_6]; exact jb_isub2 (rfl) (rfl) (by omega)
          refine lv_iload_n hx hb dX14_placeOf_30 rfl (lv_at hl 3 rfl) ?_
          refine lv_icmp_ge (tgt := 58) hx hb dX14_placeOf_31 (by decide) (fun c_7 => ?_) (fun c_7 => ?_)
          · skip
            have c_7' : z_6.toInt ≥ a3.toInt := jb_ge (rfl) (rfl) c_7
            refine lv_iload hx hb dX14_placeOf_58 (lv_at hl 5 rfl) ?_
            rw [hQ]
            exact W.iret (v := v5_4) hx hb hr (fun t ht hW => ⟨⟨v5_4, (), rfl, by first | omega | (refine ⟨?_, ?_⟩ <;> (first | omega | rfl | assumption | decide | exact Or.inl rfl | exact Or.inr rfl | (simp only; omega))), hh_4.rt (M1 := []) [] rfl ht⟩, by rw [ht]; try exact hh_4.1.1, fun q h9 hq => by rw [ht]; try exact hh_4.1.2.1 q h9 hq⟩) hh_4.1.2.2 dX14_placeOf_60
          · skip
            have c_7' : z_6.toInt < a3.toInt := jb_ge_n (rfl) (rfl) c_7
            refine lv_aload_n hx hb dX14_placeOf_34 rfl (lv_at hl 0 rfl) ?_
            refine lv_iload hx hb dX14_placeOf_35 (lv_at hl 5 rfl) ?_
            refine j7_iald hx hb hK hh_4 hB194 1 rfl (by decide) hg_r0 (x := v5_4.toInt) (rfl) (by omega) dX14_placeOf_37 (fun z_8 (hz_8 : True) => ?_)
            refine lv_bipush (v := 10) hx hb dX14_placeOf_38 (by decide) ?_
            refine lv_icmp_eq (tgt := 58) hx hb dX14_placeOf_40 (by decide) (fun c_9 => ?_) (fun c_9 => ?_)
            · skip
              have c_9' : z_8.toInt = 10 := jb_eq (rfl) ((by decide)) c_9
              refine lv_iload hx hb dX14_placeOf_58 (lv_at hl 5 rfl) ?_
              rw [hQ]
              exact W.iret (v := v5_4) hx hb hr (fun t ht hW => ⟨⟨v5_4, (), rfl, by first | omega | (refine ⟨?_, ?_⟩ <;> (first | omega | rfl | assumption | decide | exact Or.inl rfl | exact Or.inr rfl | (simp only; omega))), hh_4.rt (M1 := []) [] rfl ht⟩, by rw [ht]; try exact hh_4.1.1, fun q h9 hq => by rw [ht]; try exact hh_4.1.2.1 q h9 hq⟩) hh_4.1.2.2 dX14_placeOf_60
            · skip
              have c_9' : z_8.toInt ≠ 10 := jb_eq_n (rfl) ((by decide)) c_9
              refine lv_aload_n hx hb dX14_placeOf_43 rfl (lv_at hl 0 rfl) ?_
              refine lv_iload hx hb dX14_placeOf_44 (lv_at hl 5 rfl) ?_
              refine j7_iald hx hb hK hh_4 hB194 1 rfl (by decide) hg_r0 (x := v5_4.toInt) (rfl) (by omega) dX14_placeOf_46 (fun z_10 (hz_10 : True) => ?_)
              refine lv_bipush (v := 13) hx hb dX14_placeOf_47 (by decide) ?_
              refine lv_icmp_eq (tgt := 58) hx hb dX14_placeOf_49 (by decide) (fun c_11 => ?_) (fun c_11 => ?_)
              · skip
                have c_11' : z_10.toInt = 13 := jb_eq (rfl) ((by decide)) c_11
                refine lv_iload hx hb dX14_placeOf_58 (lv_at hl 5 rfl) ?_
                rw [hQ]
                exact W.iret (v := v5_4) hx hb hr (fun t ht hW => ⟨⟨v5_4, (), rfl, by first | omega | (refine ⟨?_, ?_⟩ <;> (first | omega | rfl | assumption | decide | exact Or.inl rfl | exact Or.inr rfl | (simp only; omega))), hh_4.rt (M1 := []) [] rfl ht⟩, by rw [ht]; try exact hh_4.1.1, fun q h9 hq => by rw [ht]; try exact hh_4.1.2.1 q h9 hq⟩) hh_4.1.2.2 dX14_placeOf_60
              · skip
                have c_11' : z_10.toInt ≠ 13 := jb_eq_n (rfl) ((by decide)) c_11
                obtain ⟨z_12, ez_12⟩ : ∃ y : Int32, y = v5_4 + 1 := ⟨_, rfl⟩
                refine lv_iinc (v := z_12) (lv' := [(5, .int z_12), (0, .ref r0), (1, .int a1), (2, .int a2), (3, .int a3), (4, .int r_2)]) hx hb dX14_placeOf_52 hl (k := 5) rfl (by rw [ez_12]; rfl) (by decide) rfl (fun ls hl => ?_)
                have hz_12 : z_12.toInt = v5_4.toInt + 1 := by rw [ez_12]; exact jb_iadd2 (rfl) (by decide) (by omega)
                refine lv_goto (tgt := 19) hx hb dX14_placeOf_55 (by decide) ?_
                exact L19 z_12 _ _ hh_4 (by first | omega | (refine ⟨?_, ?_⟩ <;> (first | omega | rfl | assumption | decide | exact Or.inl rfl | exact Or.inr rfl | (simp only; omega)))) (by omega) _ (lv_sub hl [1, 2, 3, 4, 5, 0] rfl)
    exact L19 (a1.toInt - (r_2 : Int32).toInt : Int).toNat.succ r_2 _ _ hh_1 (by first | omega | (refine ⟨?_, ?_⟩ <;> (first | omega | rfl | assumption | decide | exact Or.inl rfl | exact Or.inr rfl | (simp only; omega)))) (by omega) _ (lv_sub hl [2, 3, 4, 5, 1, 0] rfl)
  · skip
    have c_3' : r_2.toInt < 0 := jb_ge_n (rfl) ((by decide)) c_3
    first | (have hr_2_2q := hr_2_2.resolve_left (by omega); clear hr_2_2) | (have hr_2_2q := hr_2_2.resolve_right (by omega); clear hr_2_2) | skip
    refine lv_iconst (v := (-1)) hx hb dX14_placeOf_13 (by decide) ?_
    rw [hQ]
    exact W.iret (v := (-1)) hx hb hr (fun t ht hW => ⟨⟨(-1), (), rfl, by first | omega | (refine ⟨?_, ?_⟩ <;> (first | omega | rfl | assumption | decide | exact Or.inl rfl | exact Or.inr rfl | (simp only; omega))), hh_1.rt (M1 := []) [] rfl ht⟩, by rw [ht]; try exact hh_1.1.1, fun q h9 hq => by rw [ht]; try exact hh_1.1.2.1 q h9 hq⟩) hh_1.1.2.2 dX14_placeOf_14
end
section
theorem dX14_waitFor_0 : decode cX14_waitFor 0 = .ok (.aload_n 0, 1) := by decide +kernel
theorem dX14_waitFor_1 : decode cX14_waitFor 1 = .ok (.getfield 711, 3) := by decide +kernel
theorem dX14_waitFor_4 : decode cX14_waitFor 4 = .ok (.bipush 12, 2) := by decide +kernel
theorem dX14_waitFor_6 : decode cX14_waitFor 6 = .ok (.if_icmp .ne 12, 3) := by decide +kernel
theorem dX14_waitFor_9 : decode cX14_waitFor 9 = .ok (.aload_n 0, 1) := by decide +kernel
theorem dX14_waitFor_10 : decode cX14_waitFor 10 = .ok (.sipush (-32600), 3) := by decide +kernel
theorem dX14_waitFor_13 : decode cX14_waitFor 13 = .ok (.invokevirtual 425, 3) := by decide +kernel
theorem dX14_waitFor_16 : decode cX14_waitFor 16 = .ok (.iconst 0, 1) := by decide +kernel
theorem dX14_waitFor_17 : decode cX14_waitFor 17 = .ok (.ireturn, 1) := by decide +kernel
theorem dX14_waitFor_18 : decode cX14_waitFor 18 = .ok (.aload_n 0, 1) := by decide +kernel
theorem dX14_waitFor_19 : decode cX14_waitFor 19 = .ok (.getfield 91, 3) := by decide +kernel
theorem dX14_waitFor_22 : decode cX14_waitFor 22 = .ok (.aload_n 0, 1) := by decide +kernel
theorem dX14_waitFor_23 : decode cX14_waitFor 23 = .ok (.getfield 711, 3) := by decide +kernel
theorem dX14_waitFor_26 : decode cX14_waitFor 26 = .ok (.aload_n 1, 1) := by decide +kernel
theorem dX14_waitFor_27 : decode cX14_waitFor 27 = .ok (.aastore, 1) := by decide +kernel
theorem dX14_waitFor_28 : decode cX14_waitFor 28 = .ok (.aload_n 0, 1) := by decide +kernel
theorem dX14_waitFor_29 : decode cX14_waitFor 29 = .ok (.getfield 94, 3) := by decide +kernel
theorem dX14_waitFor_32 : decode cX14_waitFor 32 = .ok (.aload_n 0, 1) := by decide +kernel
theorem dX14_waitFor_33 : decode cX14_waitFor 33 = .ok (.getfield 711, 3) := by decide +kernel
theorem dX14_waitFor_36 : decode cX14_waitFor 36 = .ok (.iload_n 2, 1) := by decide +kernel
theorem dX14_waitFor_37 : decode cX14_waitFor 37 = .ok (.bastore, 1) := by decide +kernel
theorem dX14_waitFor_38 : decode cX14_waitFor 38 = .ok (.aload_n 0, 1) := by decide +kernel
theorem dX14_waitFor_39 : decode cX14_waitFor 39 = .ok (.getfield 97, 3) := by decide +kernel
theorem dX14_waitFor_42 : decode cX14_waitFor 42 = .ok (.aload_n 0, 1) := by decide +kernel
theorem dX14_waitFor_43 : decode cX14_waitFor 43 = .ok (.getfield 711, 3) := by decide +kernel
theorem dX14_waitFor_46 : decode cX14_waitFor 46 = .ok (.iload_n 3, 1) := by decide +kernel
theorem dX14_waitFor_47 : decode cX14_waitFor 47 = .ok (.iastore, 1) := by decide +kernel
theorem dX14_waitFor_48 : decode cX14_waitFor 48 = .ok (.aload_n 0, 1) := by decide +kernel
theorem dX14_waitFor_49 : decode cX14_waitFor 49 = .ok (.getfield 100, 3) := by decide +kernel
theorem dX14_waitFor_52 : decode cX14_waitFor 52 = .ok (.aload_n 0, 1) := by decide +kernel
theorem dX14_waitFor_53 : decode cX14_waitFor 53 = .ok (.getfield 711, 3) := by decide +kernel
theorem dX14_waitFor_56 : decode cX14_waitFor 56 = .ok (.aload_n 0, 1) := by decide +kernel
theorem dX14_waitFor_57 : decode cX14_waitFor 57 = .ok (.getfield 377, 3) := by decide +kernel
theorem dX14_waitFor_60 : decode cX14_waitFor 60 = .ok (.bastore, 1) := by decide +kernel
theorem dX14_waitFor_61 : decode cX14_waitFor 61 = .ok (.aload_n 0, 1) := by decide +kernel
theorem dX14_waitFor_62 : decode cX14_waitFor 62 = .ok (.getfield 103, 3) := by decide +kernel
theorem dX14_waitFor_65 : decode cX14_waitFor 65 = .ok (.aload_n 0, 1) := by decide +kernel
theorem dX14_waitFor_66 : decode cX14_waitFor 66 = .ok (.getfield 711, 3) := by decide +kernel
theorem dX14_waitFor_69 : decode cX14_waitFor 69 = .ok (.aload_n 0, 1) := by decide +kernel
theorem dX14_waitFor_70 : decode cX14_waitFor 70 = .ok (.getfield 380, 3) := by decide +kernel
theorem dX14_waitFor_73 : decode cX14_waitFor 73 = .ok (.iastore, 1) := by decide +kernel
theorem dX14_waitFor_74 : decode cX14_waitFor 74 = .ok (.aload_n 0, 1) := by decide +kernel
theorem dX14_waitFor_75 : decode cX14_waitFor 75 = .ok (.getfield 109, 3) := by decide +kernel
theorem dX14_waitFor_78 : decode cX14_waitFor 78 = .ok (.aload_n 0, 1) := by decide +kernel
theorem dX14_waitFor_79 : decode cX14_waitFor 79 = .ok (.getfield 711, 3) := by decide +kernel
theorem dX14_waitFor_82 : decode cX14_waitFor 82 = .ok (.aload_n 0, 1) := by decide +kernel
theorem dX14_waitFor_83 : decode cX14_waitFor 83 = .ok (.getfield 383, 3) := by decide +kernel
theorem dX14_waitFor_86 : decode cX14_waitFor 86 = .ok (.iastore, 1) := by decide +kernel
theorem dX14_waitFor_87 : decode cX14_waitFor 87 = .ok (.iconst 0, 1) := by decide +kernel
theorem dX14_waitFor_88 : decode cX14_waitFor 88 = .ok (.istore 4, 2) := by decide +kernel
theorem dX14_waitFor_90 : decode cX14_waitFor 90 = .ok (.iload 4, 2) := by decide +kernel
theorem dX14_waitFor_92 : decode cX14_waitFor 92 = .ok (.aload_n 0, 1) := by decide +kernel
theorem dX14_waitFor_93 : decode cX14_waitFor 93 = .ok (.getfield 383, 3) := by decide +kernel
theorem dX14_waitFor_96 : decode cX14_waitFor 96 = .ok (.if_icmp .ge 31, 3) := by decide +kernel
theorem dX14_waitFor_99 : decode cX14_waitFor 99 = .ok (.aload_n 0, 1) := by decide +kernel
theorem dX14_waitFor_100 : decode cX14_waitFor 100 = .ok (.getfield 106, 3) := by decide +kernel
theorem dX14_waitFor_103 : decode cX14_waitFor 103 = .ok (.bipush 20, 2) := by decide +kernel
theorem dX14_waitFor_105 : decode cX14_waitFor 105 = .ok (.aload_n 0, 1) := by decide +kernel
theorem dX14_waitFor_106 : decode cX14_waitFor 106 = .ok (.getfield 711, 3) := by decide +kernel
theorem dX14_waitFor_109 : decode cX14_waitFor 109 = .ok (.imul, 1) := by decide +kernel
theorem dX14_waitFor_110 : decode cX14_waitFor 110 = .ok (.iload 4, 2) := by decide +kernel
theorem dX14_waitFor_112 : decode cX14_waitFor 112 = .ok (.iadd, 1) := by decide +kernel
theorem dX14_waitFor_113 : decode cX14_waitFor 113 = .ok (.aload_n 0, 1) := by decide +kernel
theorem dX14_waitFor_114 : decode cX14_waitFor 114 = .ok (.getfield 68, 3) := by decide +kernel
theorem dX14_waitFor_117 : decode cX14_waitFor 117 = .ok (.iload 4, 2) := by decide +kernel
theorem dX14_waitFor_119 : decode cX14_waitFor 119 = .ok (.iaload, 1) := by decide +kernel
theorem dX14_waitFor_120 : decode cX14_waitFor 120 = .ok (.iastore, 1) := by decide +kernel
theorem dX14_waitFor_121 : decode cX14_waitFor 121 = .ok (.iinc 4 1, 3) := by decide +kernel
theorem dX14_waitFor_124 : decode cX14_waitFor 124 = .ok (.goto (-34), 3) := by decide +kernel
theorem dX14_waitFor_127 : decode cX14_waitFor 127 = .ok (.aload_n 0, 1) := by decide +kernel
theorem dX14_waitFor_128 : decode cX14_waitFor 128 = .ok (.dup, 1) := by decide +kernel
theorem dX14_waitFor_129 : decode cX14_waitFor 129 = .ok (.getfield 711, 3) := by decide +kernel
theorem dX14_waitFor_132 : decode cX14_waitFor 132 = .ok (.iconst 1, 1) := by decide +kernel
theorem dX14_waitFor_133 : decode cX14_waitFor 133 = .ok (.iadd, 1) := by decide +kernel
theorem dX14_waitFor_134 : decode cX14_waitFor 134 = .ok (.putfield 711, 3) := by decide +kernel
theorem dX14_waitFor_137 : decode cX14_waitFor 137 = .ok (.iconst 1, 1) := by decide +kernel
theorem dX14_waitFor_138 : decode cX14_waitFor 138 = .ok (.ireturn, 1) := by decide +kernel
end
section
theorem dX14_isIdOf_0 : decode cX14_isIdOf 0 = .ok (.aload_n 0, 1) := by decide +kernel
theorem dX14_isIdOf_1 : decode cX14_isIdOf 1 = .ok (.getfield 100, 3) := by decide +kernel
theorem dX14_isIdOf_4 : decode cX14_isIdOf 4 = .ok (.iload_n 1, 1) := by decide +kernel
theorem dX14_isIdOf_5 : decode cX14_isIdOf 5 = .ok (.baload, 1) := by decide +kernel
theorem dX14_isIdOf_6 : decode cX14_isIdOf 6 = .ok (.aload_n 0, 1) := by decide +kernel
theorem dX14_isIdOf_7 : decode cX14_isIdOf 7 = .ok (.getfield 37, 3) := by decide +kernel
theorem dX14_isIdOf_10 : decode cX14_isIdOf 10 = .ok (.iload_n 2, 1) := by decide +kernel
theorem dX14_isIdOf_11 : decode cX14_isIdOf 11 = .ok (.iaload, 1) := by decide +kernel
theorem dX14_isIdOf_12 : decode cX14_isIdOf 12 = .ok (.iconst 4, 1) := by decide +kernel
theorem dX14_isIdOf_13 : decode cX14_isIdOf 13 = .ok (.if_icmp .ne 7, 3) := by decide +kernel
theorem dX14_isIdOf_16 : decode cX14_isIdOf 16 = .ok (.iconst 1, 1) := by decide +kernel
theorem dX14_isIdOf_17 : decode cX14_isIdOf 17 = .ok (.goto 4, 3) := by decide +kernel
theorem dX14_isIdOf_20 : decode cX14_isIdOf 20 = .ok (.iconst 0, 1) := by decide +kernel
theorem dX14_isIdOf_21 : decode cX14_isIdOf 21 = .ok (.if_icmp .eq 5, 3) := by decide +kernel
theorem dX14_isIdOf_24 : decode cX14_isIdOf 24 = .ok (.iconst 0, 1) := by decide +kernel
theorem dX14_isIdOf_25 : decode cX14_isIdOf 25 = .ok (.ireturn, 1) := by decide +kernel
theorem dX14_isIdOf_26 : decode cX14_isIdOf 26 = .ok (.aload_n 0, 1) := by decide +kernel
theorem dX14_isIdOf_27 : decode cX14_isIdOf 27 = .ok (.getfield 100, 3) := by decide +kernel
theorem dX14_isIdOf_30 : decode cX14_isIdOf 30 = .ok (.iload_n 1, 1) := by decide +kernel
theorem dX14_isIdOf_31 : decode cX14_isIdOf 31 = .ok (.baload, 1) := by decide +kernel
theorem dX14_isIdOf_32 : decode cX14_isIdOf 32 = .ok (.ifCond .ne 24, 3) := by decide +kernel
theorem dX14_isIdOf_35 : decode cX14_isIdOf 35 = .ok (.aload_n 0, 1) := by decide +kernel
theorem dX14_isIdOf_36 : decode cX14_isIdOf 36 = .ok (.getfield 103, 3) := by decide +kernel
theorem dX14_isIdOf_39 : decode cX14_isIdOf 39 = .ok (.iload_n 1, 1) := by decide +kernel
theorem dX14_isIdOf_40 : decode cX14_isIdOf 40 = .ok (.iaload, 1) := by decide +kernel
theorem dX14_isIdOf_41 : decode cX14_isIdOf 41 = .ok (.aload_n 0, 1) := by decide +kernel
theorem dX14_isIdOf_42 : decode cX14_isIdOf 42 = .ok (.getfield 62, 3) := by decide +kernel
theorem dX14_isIdOf_45 : decode cX14_isIdOf 45 = .ok (.iload_n 2, 1) := by decide +kernel
theorem dX14_isIdOf_46 : decode cX14_isIdOf 46 = .ok (.iaload, 1) := by decide +kernel
theorem dX14_isIdOf_47 : decode cX14_isIdOf 47 = .ok (.if_icmp .ne 7, 3) := by decide +kernel
theorem dX14_isIdOf_50 : decode cX14_isIdOf 50 = .ok (.iconst 1, 1) := by decide +kernel
theorem dX14_isIdOf_51 : decode cX14_isIdOf 51 = .ok (.goto 4, 3) := by decide +kernel
theorem dX14_isIdOf_54 : decode cX14_isIdOf 54 = .ok (.iconst 0, 1) := by decide +kernel
theorem dX14_isIdOf_55 : decode cX14_isIdOf 55 = .ok (.ireturn, 1) := by decide +kernel
theorem dX14_isIdOf_56 : decode cX14_isIdOf 56 = .ok (.aload_n 0, 1) := by decide +kernel
theorem dX14_isIdOf_57 : decode cX14_isIdOf 57 = .ok (.getfield 109, 3) := by decide +kernel
theorem dX14_isIdOf_60 : decode cX14_isIdOf 60 = .ok (.iload_n 1, 1) := by decide +kernel
theorem dX14_isIdOf_61 : decode cX14_isIdOf 61 = .ok (.iaload, 1) := by decide +kernel
theorem dX14_isIdOf_62 : decode cX14_isIdOf 62 = .ok (.aload_n 0, 1) := by decide +kernel
theorem dX14_isIdOf_63 : decode cX14_isIdOf 63 = .ok (.getfield 55, 3) := by decide +kernel
theorem dX14_isIdOf_66 : decode cX14_isIdOf 66 = .ok (.iload_n 2, 1) := by decide +kernel
theorem dX14_isIdOf_67 : decode cX14_isIdOf 67 = .ok (.iaload, 1) := by decide +kernel
theorem dX14_isIdOf_68 : decode cX14_isIdOf 68 = .ok (.aload_n 0, 1) := by decide +kernel
theorem dX14_isIdOf_69 : decode cX14_isIdOf 69 = .ok (.getfield 52, 3) := by decide +kernel
theorem dX14_isIdOf_72 : decode cX14_isIdOf 72 = .ok (.iload_n 2, 1) := by decide +kernel
theorem dX14_isIdOf_73 : decode cX14_isIdOf 73 = .ok (.iaload, 1) := by decide +kernel
theorem dX14_isIdOf_74 : decode cX14_isIdOf 74 = .ok (.isub, 1) := by decide +kernel
theorem dX14_isIdOf_75 : decode cX14_isIdOf 75 = .ok (.if_icmp .ne 7, 3) := by decide +kernel
theorem dX14_isIdOf_78 : decode cX14_isIdOf 78 = .ok (.iconst 1, 1) := by decide +kernel
theorem dX14_isIdOf_79 : decode cX14_isIdOf 79 = .ok (.goto 4, 3) := by decide +kernel
theorem dX14_isIdOf_82 : decode cX14_isIdOf 82 = .ok (.iconst 0, 1) := by decide +kernel
theorem dX14_isIdOf_83 : decode cX14_isIdOf 83 = .ok (.istore_n 3, 1) := by decide +kernel
theorem dX14_isIdOf_84 : decode cX14_isIdOf 84 = .ok (.iconst 0, 1) := by decide +kernel
theorem dX14_isIdOf_85 : decode cX14_isIdOf 85 = .ok (.istore 4, 2) := by decide +kernel
theorem dX14_isIdOf_87 : decode cX14_isIdOf 87 = .ok (.iload 4, 2) := by decide +kernel
theorem dX14_isIdOf_89 : decode cX14_isIdOf 89 = .ok (.aload_n 0, 1) := by decide +kernel
theorem dX14_isIdOf_90 : decode cX14_isIdOf 90 = .ok (.getfield 109, 3) := by decide +kernel
theorem dX14_isIdOf_93 : decode cX14_isIdOf 93 = .ok (.iload_n 1, 1) := by decide +kernel
theorem dX14_isIdOf_94 : decode cX14_isIdOf 94 = .ok (.iaload, 1) := by decide +kernel
theorem dX14_isIdOf_95 : decode cX14_isIdOf 95 = .ok (.if_icmp .ge 48, 3) := by decide +kernel
theorem dX14_isIdOf_98 : decode cX14_isIdOf 98 = .ok (.iload_n 3, 1) := by decide +kernel
theorem dX14_isIdOf_99 : decode cX14_isIdOf 99 = .ok (.ifCond .eq 44, 3) := by decide +kernel
theorem dX14_isIdOf_102 : decode cX14_isIdOf 102 = .ok (.aload_n 0, 1) := by decide +kernel
theorem dX14_isIdOf_103 : decode cX14_isIdOf 103 = .ok (.getfield 106, 3) := by decide +kernel
theorem dX14_isIdOf_106 : decode cX14_isIdOf 106 = .ok (.bipush 20, 2) := by decide +kernel
theorem dX14_isIdOf_108 : decode cX14_isIdOf 108 = .ok (.iload_n 1, 1) := by decide +kernel
theorem dX14_isIdOf_109 : decode cX14_isIdOf 109 = .ok (.imul, 1) := by decide +kernel
theorem dX14_isIdOf_110 : decode cX14_isIdOf 110 = .ok (.iload 4, 2) := by decide +kernel
theorem dX14_isIdOf_112 : decode cX14_isIdOf 112 = .ok (.iadd, 1) := by decide +kernel
theorem dX14_isIdOf_113 : decode cX14_isIdOf 113 = .ok (.iaload, 1) := by decide +kernel
theorem dX14_isIdOf_114 : decode cX14_isIdOf 114 = .ok (.aload_n 0, 1) := by decide +kernel
theorem dX14_isIdOf_115 : decode cX14_isIdOf 115 = .ok (.getfield 65, 3) := by decide +kernel
theorem dX14_isIdOf_118 : decode cX14_isIdOf 118 = .ok (.aload_n 0, 1) := by decide +kernel
theorem dX14_isIdOf_119 : decode cX14_isIdOf 119 = .ok (.getfield 52, 3) := by decide +kernel
theorem dX14_isIdOf_122 : decode cX14_isIdOf 122 = .ok (.iload_n 2, 1) := by decide +kernel
theorem dX14_isIdOf_123 : decode cX14_isIdOf 123 = .ok (.iaload, 1) := by decide +kernel
theorem dX14_isIdOf_124 : decode cX14_isIdOf 124 = .ok (.iload 4, 2) := by decide +kernel
theorem dX14_isIdOf_126 : decode cX14_isIdOf 126 = .ok (.iadd, 1) := by decide +kernel
theorem dX14_isIdOf_127 : decode cX14_isIdOf 127 = .ok (.iaload, 1) := by decide +kernel
theorem dX14_isIdOf_128 : decode cX14_isIdOf 128 = .ok (.if_icmp .ne 7, 3) := by decide +kernel
theorem dX14_isIdOf_131 : decode cX14_isIdOf 131 = .ok (.iconst 1, 1) := by decide +kernel
theorem dX14_isIdOf_132 : decode cX14_isIdOf 132 = .ok (.goto 4, 3) := by decide +kernel
theorem dX14_isIdOf_135 : decode cX14_isIdOf 135 = .ok (.iconst 0, 1) := by decide +kernel
theorem dX14_isIdOf_136 : decode cX14_isIdOf 136 = .ok (.istore_n 3, 1) := by decide +kernel
theorem dX14_isIdOf_137 : decode cX14_isIdOf 137 = .ok (.iinc 4 1, 3) := by decide +kernel
theorem dX14_isIdOf_140 : decode cX14_isIdOf 140 = .ok (.goto (-53), 3) := by decide +kernel
theorem dX14_isIdOf_143 : decode cX14_isIdOf 143 = .ok (.iload_n 3, 1) := by decide +kernel
theorem dX14_isIdOf_144 : decode cX14_isIdOf 144 = .ok (.ireturn, 1) := by decide +kernel
def EX14_isIdOf : List (Nat × Nat) := []
set_option maxHeartbeats 4000000 in
set_option maxRecDepth 20000 in
theorem uX14_isIdOf (l : Launch) (dC : Nat → ClassId) (dI : Nat → Nat → Nat) (ca : Nat → ClassId) (base : Nat) (B : jF) (hB : jBok B) (hAp : jAp (dC, dI)) (hB16 : ∀ n G a H, B 16 n G a H ↔ jOb (dC, dI) 16 74 (F16 n G) a H) (hB101 : ∀ n G a H, B 101 n G a H ↔ jAr (dC, dI) (ca 1) (fun j z => True) n a H) (hB103 : ∀ n G a H, B 103 n G a H ↔ jAr (dC, dI) (ca 3) (fun j z => (z = 0 ∨ z = 1)) n a H) (hB117 : ∀ n G a H, B 117 n G a H ↔ jAr (dC, dI) (ca 1) (fun j z => True) n a H) (hB122 : ∀ n G a H, B 122 n G a H ↔ jAr (dC, dI) (ca 1) (fun j z => 0 ≤ z.toInt ∧ z.toInt ≤ 3100) n a H) (hB123 : ∀ n G a H, B 123 n G a H ↔ jAr (dC, dI) (ca 1) (fun j z => 0 ≤ z.toInt ∧ z.toInt ≤ 3100) n a H) (hB125 : ∀ n G a H, B 125 n G a H ↔ jAr (dC, dI) (ca 1) (fun j z => True) n a H) (hB127 : ∀ n G a H, B 127 n G a H ↔ jAr (dC, dI) (ca 1) (fun j z => True) n a H) (hB203 : ∀ n G a H, B 203 n G a H ↔ jAr (dC, dI) (ca 1) (fun j z => -3300 ≤ z.toInt ∧ z.toInt ≤ 20) n a H) (G0 : jT) (H0 : Heap) (r0 : Nat) (a1 : Int32) (a2 : Int32) (xb : Nat) (xe : Nat) (zw : Nat) (fb : Nat → Int32) (fe : Nat → Int32) (fl : Nat → Int32) : Met l yX14_isIdOf (jw yX14_isIdOf cX14_isIdOf 5 (some .boolean)) ({ frames := 0, cells := 0, slots := 0, locals := 0 }) (va_Pc [.ref r0, .int a1, .int a2] (fun U => U.heap = H0 ∧ jX B base G0 [] H0 ∧ jG dC dI ca base U ∧ G0 r0 = some (16, 0) ∧ G0 xb = some (122, 3100) ∧ G0 xe = some (123, 3100) ∧ G0 zw = some (203, 12) ∧ jP (dC, dI) G0 H0 [(r0, 16, 22, .ref xb), (r0, 16, 23, .ref xe), (r0, 16, 55, .ref zw)] ∧ jMc (dC, dI) G0 H0 [(xb, 122, 3100, ca 1, fb), (xe, 123, 3100, ca 1, fe), (zw, 203, 12, ca 1, fl)] ∧ 0 ≤ a1.toInt ∧ a1.toInt ≤ 11 ∧ 0 ≤ a2.toInt ∧ a2.toInt ≤ 3099)) (va_Qi (S := Unit) (fun r u => (r = 0 ∨ r = 1) ∧ (0 ≤ r.toInt ∧ r.toInt ≤ 1)) (fun u t => jRt (dC, dI) B base G0 EX14_isIdOf H0 [] t.heap) (jA base)) 0 0 (jA base) := by
  refine Met.ofW (cc := cX14_isIdOf) (maxL := 5) (ret := (some .boolean)) (by decide) rfl ?_
  intro p e s m args below meth c s₁ Bd hml hv
  obtain ⟨rfl, hH0, hX, hG, hg_r0, hg_xb, hg_xe, hg_zw, hP0, hM0, hp0, hp1, hp2, hp3⟩ := hv
  have hK := hG.1
  have hx := Bd.exec
  have hb := Bd.bytes
  have hr := Bd.returns
  have hts := atoms_spec (ws := (jw yX14_isIdOf cX14_isIdOf 5 (some .boolean))) Bd.pre
  have htw : ∀ w ∈ jWl, w.before _ s = true := fun w h => hts w (List.mem_cons_of_mem _ h)
  have hown : s.vm.findClass RX14 = some m.cls := findClass_of_methodNamed Bd.named
  have hlocks := Bd.notSynchronized
  obtain ⟨Q, hQ⟩ : ∃ Q, Q = MQ below (va_Qi (S := Unit) (fun r u => (r = 0 ∨ r = 1) ∧ (0 ≤ r.toInt ∧ r.toInt ≤ 1)) (fun u t => jRt (dC, dI) B base G0 EX14_isIdOf H0 [] t.heap) (jA base)) ([.ref r0, .int a1, .int a2] : List Value).toArray s 0 0 (jA base) := ⟨_, rfl⟩
  rw [← hQ]
  have hl := lv_entry ([.ref r0, .int a1, .int a2]) (n := 5) (Nat.le_of_ble_eq_true rfl)
  rw [lg_entry_eq]
  generalize (lg_sl ([.ref r0, .int a1, .int a2]) ++ List.replicate (5 - (lg_sl ([.ref r0, .int a1, .int a2])).length) Slot.unset).toArray = ls at hl ⊢
  have hl : lv_has ls 5 [(0, .ref r0), (1, .int a1), (2, .int a2)] := hl
  generalize hR : (headSpec (jw yX14_isIdOf cX14_isIdOf 5 (some .boolean)) ({ frames := 0, cells := 0, slots := 0, locals := 0 })).room = R
  subst hH0
  have hh : jSt (dC, dI) B base G0 G0 EX14_isIdOf s.heap 0 0 [(r0, 16, 22, .ref xb), (r0, 16, 23, .ref xe), (r0, 16, 55, .ref zw)] [(xb, 122, 3100, ca 1, fb), (xe, 123, 3100, ca 1, fe), (zw, 203, 12, ca 1, fl)] [] s.heap [] := jSt.start hX hP0 hM0 jIs.nil
  clear hX hP0
  have hk0 : (0 : Int32).toInt = 0 := by decide
  have hk1 : (1 : Int32).toInt = 1 := by decide
  have hk4 : (4 : Int32).toInt = 4 := by decide
  have hk20 : (20 : Int32).toInt = 20 := by decide
  have hly_16_17 := htw (u_lay RX14 TX14 17) (jWc_wsX140 _ (u_in_lay (by decide)))
  have hly_16_22 := htw (u_lay RX14 TX14 22) (jWc_wsX140 _ (u_in_lay (by decide)))
  have hly_16_23 := htw (u_lay RX14 TX14 23) (jWc_wsX140 _ (u_in_lay (by decide)))
  have hly_16_25 := htw (u_lay RX14 TX14 25) (jWc_wsX140 _ (u_in_lay (by decide)))
  have hly_16_27 := htw (u_lay RX14 TX14 27) (jWc_wsX140 _ (u_in_lay (by decide)))
  have hly_16_52 := htw (u_lay RX14 TX14 52) (jWc_wsX140 _ (u_in_lay (by decide)))
  have hly_16_53 := htw (u_lay RX14 TX14 53) (jWc_wsX140 _ (u_in_lay (by decide)))
  have hly_16_54 := htw (u_lay RX14 TX14 54) (jWc_wsX140 _ (u_in_lay (by decide)))
  have hly_16_55 := htw (u_lay RX14 TX14 55) (jWc_wsX140 _ (u_in_lay (by decide)))
  have hlk_100 := (htw (.fieldLink RX14 100 "ProofServerModel" "waitString" "[Z") (jWr_12 _ (List.mem_of_getElem? (i := 3) rfl)))
  have hlk_37 := (htw (.fieldLink RX14 37 "ProofServerModel" "sort" "[I") (jWr_11 _ (List.mem_of_getElem? (i := 4) rfl)))
  have hlk_103 := (htw (.fieldLink RX14 103 "ProofServerModel" "waitInt" "[I") (jWr_12 _ (List.mem_of_getElem? (i := 4) rfl)))
  have hlk_62 := (htw (.fieldLink RX14 62 "ProofServerModel" "ints" "[I") (jWr_11 _ (List.mem_of_getElem? (i := 13) rfl)))
  have hlk_109 := (htw (.fieldLink RX14 109 "ProofServerModel" "waitLength" "[I") (jWr_12 _ (List.mem_of_getElem? (i := 6) rfl)))
  have hlk_55 := (htw (.fieldLink RX14 55 "ProofServerModel" "to" "[I") (jWr_11 _ (List.mem_of_getElem? (i := 10) rfl)))
  have hlk_52 := (htw (.fieldLink RX14 52 "ProofServerModel" "from" "[I") (jWr_11 _ (List.mem_of_getElem? (i := 9) rfl)))
  have hlk_106 := (htw (.fieldLink RX14 106 "ProofServerModel" "waitUnits" "[I") (jWr_12 _ (List.mem_of_getElem? (i := 5) rfl)))
  have hlk_65 := (htw (.fieldLink RX14 65 "ProofServerModel" "pool" "[I") (jWr_11 _ (List.mem_of_getElem? (i := 14) rfl)))
  have hrg_a1 := jb_rng a1
  have hrg_a2 := jb_rng a2
  refine lv_aload_n hx hb dX14_isIdOf_0 rfl (lv_at hl 0 rfl) ?_
  obtain ⟨v_1, hv_1, hh_2⟩ := hh.pin (C := RX14) (T := TX14) (N := 74) hB16 rfl (by decide) hg_r0 (i := 52) (by decide) rfl
  clear hh
  obtain ⟨waitString_3, rfl, hg_waitString_3⟩ := hv_1
  refine j7_read hx hb hown hK (C := RX14) (T := TX14) (N := 74) rfl hly_16_52 hlk_100 (hh_2.at 0 rfl) dX14_isIdOf_1 ?_
  refine lv_iload_n hx hb dX14_isIdOf_4 rfl (lv_at hl 1 rfl) ?_
  refine j7_zald hx hb hK hh_2 hB103 3 rfl (by decide) hg_waitString_3 (x := a1.toInt) (rfl) (by omega) dX14_isIdOf_5 (fun z_4 (hz_4 : (z_4 = 0 ∨ z_4 = 1)) => ?_)
  have hz_4' := jb_01 hz_4
  refine lv_aload_n hx hb dX14_isIdOf_6 rfl (lv_at hl 0 rfl) ?_
  obtain ⟨v_5, hv_5, hh_6⟩ := hh_2.pin (C := RX14) (T := TX14) (N := 74) hB16 rfl (by decide) hg_r0 (i := 17) (by decide) rfl
  clear hh_2
  obtain ⟨sort_7, rfl, hg_sort_7⟩ := hv_5
  refine j7_read hx hb hown hK (C := RX14) (T := TX14) (N := 74) rfl hly_16_17 hlk_37 (hh_6.at 0 rfl) dX14_isIdOf_7 ?_
  refine lv_iload_n hx hb dX14_isIdOf_10 rfl (lv_at hl 2 rfl) ?_
  refine j7_iald hx hb hK hh_6 hB117 1 rfl (by decide) hg_sort_7 (x := a2.toInt) (rfl) (by omega) dX14_isIdOf_11 (fun z_8 (hz_8 : True) => ?_)
  refine lv_iconst (v := 4) hx hb dX14_isIdOf_12 (by decide) ?_
  refine lv_icmp_ne (tgt := 20) hx hb dX14_isIdOf_13 (by decide) (fun c_9 => ?_) (fun c_9 => ?_)
  · skip
    have c_9' : z_8.toInt ≠ 4 := jb_ne (rfl) ((by decide)) c_9
    refine lv_iconst (v := 0) hx hb dX14_isIdOf_20 (by decide) ?_
    refine lv_icmp_eq (tgt := 26) hx hb dX14_isIdOf_21 (by decide) (fun c_10 => ?_) (fun c_10 => ?_)
    · skip
      have c_10' : z_4.toInt = 0 := jb_eq (rfl) ((by decide)) c_10
      refine lv_aload_n hx hb dX14_isIdOf_26 rfl (lv_at hl 0 rfl) ?_
      refine j7_read hx hb hown hK (C := RX14) (T := TX14) (N := 74) rfl hly_16_52 hlk_100 (hh_6.at 1 rfl) dX14_isIdOf_27 ?_
      refine lv_iload_n hx hb dX14_isIdOf_30 rfl (lv_at hl 1 rfl) ?_
      refine j7_zald hx hb hK hh_6 hB103 3 rfl (by decide) hg_waitString_3 (x := a1.toInt) (rfl) (by omega) dX14_isIdOf_31 (fun z_11 (hz_11 : (z_11 = 0 ∨ z_11 = 1)) => ?_)
      have hz_11' := jb_01 hz_11
      refine lv_if_ne (tgt := 56) hx hb dX14_isIdOf_32 (by decide) (fun c_12 => ?_) (fun c_12 => ?_)
      · skip
        have c_12' : z_11.toInt ≠ 0 := jb_ne (rfl) ((by decide)) c_12
        refine lv_aload_n hx hb dX14_isIdOf_56 rfl (lv_at hl 0 rfl) ?_
        refine j7_read hx hb hown hK (C := RX14) (T := TX14) (N := 74) rfl hly_16_55 hlk_109 (hh_6.at 4 rfl) dX14_isIdOf_57 ?_
        refine lv_iload_n hx hb dX14_isIdOf_60 rfl (lv_at hl 1 rfl) ?_
        refine j7_ialdM hx hb hK hh_6 hB203 1 rfl (by decide) hg_zw (x := a1.toInt) (rfl) (by omega) (j := 2) rfl dX14_isIdOf_61 (fun z_13 ez_13 (hz_13 : -3300 ≤ z_13.toInt ∧ z_13.toInt ≤ 20) => ?_)
        have hqz_13 : z_13.toInt = jSo fl (a1.toInt) := by unfold jSo; rw [ez_13]
        refine lv_aload_n hx hb dX14_isIdOf_62 rfl (lv_at hl 0 rfl) ?_
        refine j7_read hx hb hown hK (C := RX14) (T := TX14) (N := 74) rfl hly_16_23 hlk_55 (hh_6.at 3 rfl) dX14_isIdOf_63 ?_
        refine lv_iload_n hx hb dX14_isIdOf_66 rfl (lv_at hl 2 rfl) ?_
        refine j7_ialdM hx hb hK hh_6 hB123 1 rfl (by decide) hg_xe (x := a2.toInt) (rfl) (by omega) (j := 1) rfl dX14_isIdOf_67 (fun z_14 ez_14 (hz_14 : 0 ≤ z_14.toInt ∧ z_14.toInt ≤ 3100) => ?_)
        have hqz_14 : z_14.toInt = jSo fe (a2.toInt) := by unfold jSo; rw [ez_14]
        refine lv_aload_n hx hb dX14_isIdOf_68 rfl (lv_at hl 0 rfl) ?_
        refine j7_read hx hb hown hK (C := RX14) (T := TX14) (N := 74) rfl hly_16_22 hlk_52 (hh_6.at 2 rfl) dX14_isIdOf_69 ?_
        refine lv_iload_n hx hb dX14_isIdOf_72 rfl (lv_at hl 2 rfl) ?_
        refine j7_ialdM hx hb hK hh_6 hB122 1 rfl (by decide) hg_xb (x := a2.toInt) (rfl) (by omega) (j := 0) rfl dX14_isIdOf_73 (fun z_15 ez_15 (hz_15 : 0 ≤ z_15.toInt ∧ z_15.toInt ≤ 3100) => ?_)
        have hqz_15 : z_15.toInt = jSo fb (a2.toInt) := by unfold jSo; rw [ez_15]
        refine lv_isub hx hb dX14_isIdOf_74 ?_
        refine lv_topi (fun z_16 ez_16 => ?_)
        have hz_16 : z_16.toInt = z_14.toInt - z_15.toInt := by rw [ez_16]; exact jb_isub2 (rfl) (rfl) (by omega)
        have C83 : ∀ (w0_17 : Int32) (H_17 : Heap) (locs_17 : List Loc), jSt (dC, dI) B base G0 G0 EX14_isIdOf s.heap 0 0 [(r0, 16, 17, .ref sort_7), (r0, 16, 52, .ref waitString_3), (r0, 16, 22, .ref xb), (r0, 16, 23, .ref xe), (r0, 16, 55, .ref zw)] [(xb, 122, 3100, ca 1, fb), (xe, 123, 3100, ca 1, fe), (zw, 203, 12, ca 1, fl)] [] H_17 locs_17 → (w0_17 = 0 ∨ w0_17 = 1) → (0 ≤ w0_17.toInt ∧ w0_17.toInt ≤ 1 ∧ (w0_17.toInt = 1 → jSo fe a2.toInt - jSo fb a2.toInt = jSo fl a1.toInt)) → ∀ ls : Array Slot, lv_has ls 5 [(0, .ref r0), (1, .int a1), (2, .int a2)] → W p l e R s m ([.ref r0, .int a1, .int a2] : List Value).toArray below meth c H_17 locs_17 0 0 Q (F0 m 83 ls [.int w0_17]) := by
          intro w0_17 H_17 locs_17 hh_17 hb_w0_17 hi_17 ls hl
          obtain ⟨hi_17_0, hi_17_1, hi_17_2⟩ := hi_17
          have hb_w0_17' := jb_01 hb_w0_17
          refine lv_istore_n (lv' := [(3, .int w0_17), (0, .ref r0), (1, .int a1), (2, .int a2)]) hx hb dX14_isIdOf_83 rfl hl (by decide) rfl (fun ls hl => ?_)
          refine lv_iconst (v := 0) hx hb dX14_isIdOf_84 (by decide) ?_
          refine lv_istore (lv' := [(4, .int 0), (3, .int w0_17), (0, .ref r0), (1, .int a1), (2, .int a2)]) hx hb dX14_isIdOf_85 hl (by decide) rfl (fun ls hl => ?_)
          have L87 : ∀ (N : Nat) (v3_18 : Int32) (v4_18 : Int32) (H_18 : Heap) (locs_18 : List Loc), jSt (dC, dI) B base G0 G0 EX14_isIdOf s.heap 0 0 [(r0, 16, 17, .ref sort_7), (r0, 16, 52, .ref waitString_3), (r0, 16, 22, .ref xb), (r0, 16, 23, .ref xe), (r0, 16, 55, .ref zw)] [(xb, 122, 3100, ca 1, fb), (xe, 123, 3100, ca 1, fe), (zw, 203, 12, ca 1, fl)] [] H_18 locs_18 → (v3_18 = 0 ∨ v3_18 = 1) → (0 ≤ v4_18.toInt ∧ v4_18.toInt ≤ 20 ∧ 0 ≤ v3_18.toInt ∧ v3_18.toInt ≤ 1 ∧ (v3_18.toInt = 1 → jSo fe a2.toInt - jSo fb a2.toInt = jSo fl a1.toInt)) → (20 - v4_18.toInt : Int) < N → ∀ ls : Array Slot, lv_has ls 5 [(0, .ref r0), (1, .int a1), (2, .int a2), (3, .int v3_18), (4, .int v4_18)] → W p l e R s m ([.ref r0, .int a1, .int a2] : List Value).toArray below meth c H_18 locs_18 0 0 Q (F0 m 87 ls []) := by
            intro N
            induction N with
            | zero => intro v3_18 v4_18 H_18 locs_18 hh_18 hb_v3_18 hi_18 hm; exact absurd hm (by omega)
            | succ N L87 =>
              intro v3_18 v4_18 H_18 locs_18 hh_18 hb_v3_18 hi_18 hm_18 ls hl
              obtain ⟨hi_18_0, hi_18_1, hi_18_2, hi_18_3, hi_18_4⟩ := hi_18
              have hb_v3_18' := jb_01 hb_v3_18
              refine lv_iload hx hb dX14_isIdOf_87 (lv_at hl 4 rfl) ?_
              refine lv_aload_n hx hb dX14_isIdOf_89 rfl (lv_at hl 0 rfl) ?_
              refine j7_read hx hb hown hK (C := RX14) (T := TX14) (N := 74) rfl hly_16_55 hlk_109 (hh_18.at 4 rfl) dX14_isIdOf_90 ?_
              refine lv_iload_n hx hb dX14_isIdOf_93 rfl (lv_at hl 1 rfl) ?_
              refine j7_ialdM hx hb hK hh_18 hB203 1 rfl (by decide) hg_zw (x := a1.toInt) (rfl) (by omega) (j := 2) rfl dX14_isIdOf_94 (fun z_19 ez_19 (hz_19 : -3300 ≤ z_19.toInt ∧ z_19.toInt ≤ 20) => ?_)
              have hqz_19 : z_19.toInt = jSo fl (a1.toInt) := by unfold jSo; rw [ez_19]
              refine lv_icmp_ge (tgt := 143) hx hb dX14_isIdOf_95 (by decide) (fun c_20 => ?_) (fun c_20 => ?_)
              · skip
                have c_20' : v4_18.toInt ≥ z_19.toInt := jb_ge (rfl) (rfl) c_20
                refine lv_iload_n hx hb dX14_isIdOf_143 rfl (lv_at hl 3 rfl) ?_
                rw [hQ]
                exact W.zret (v := v3_18) hx hb hr (jb_nz (hb_v3_18)) (fun t ht hW => ⟨⟨v3_18, (), rfl, ⟨(hb_v3_18), by first | omega | (refine ⟨?_, ?_⟩ <;> (first | omega | rfl | assumption | decide | exact Or.inl rfl | exact Or.inr rfl | (simp only; omega)))⟩, hh_18.rt (M1 := []) [] rfl ht⟩, by rw [ht]; try exact hh_18.1.1, fun q h9 hq => by rw [ht]; try exact hh_18.1.2.1 q h9 hq⟩) hh_18.1.2.2 dX14_isIdOf_144
              · skip
                have c_20' : v4_18.toInt < z_19.toInt := jb_ge_n (rfl) (rfl) c_20
                refine lv_iload_n hx hb dX14_isIdOf_98 rfl (lv_at hl 3 rfl) ?_
                refine lv_if_eq (tgt := 143) hx hb dX14_isIdOf_99 (by decide) (fun c_21 => ?_) (fun c_21 => ?_)
                · skip
                  have c_21' : v3_18.toInt = 0 := jb_eq (rfl) ((by decide)) c_21
                  refine lv_iload_n hx hb dX14_isIdOf_143 rfl (lv_at hl 3 rfl) ?_
                  rw [hQ]
                  exact W.zret (v := v3_18) hx hb hr (jb_nz (hb_v3_18)) (fun t ht hW => ⟨⟨v3_18, (), rfl, ⟨(hb_v3_18), by first | omega | (refine ⟨?_, ?_⟩ <;> (first | omega | rfl | assumption | decide | exact Or.inl rfl | exact Or.inr rfl | (simp only; omega)))⟩, hh_18.rt (M1 := []) [] rfl ht⟩, by rw [ht]; try exact hh_18.1.1, fun q h9 hq => by rw [ht]; try exact hh_18.1.2.1 q h9 hq⟩) hh_18.1.2.2 dX14_isIdOf_144
                · skip
                  have c_21' : v3_18.toInt ≠ 0 := jb_eq_n (rfl) ((by decide)) c_21
                  refine lv_aload_n hx hb dX14_isIdOf_102 rfl (lv_at hl 0 rfl) ?_
                  obtain ⟨v_22, hv_22, hh_23⟩ := hh_18.pin (C := RX14) (T := TX14) (N := 74) hB16 rfl (by decide) hg_r0 (i := 54) (by decide) rfl
                  clear hh_18
                  obtain ⟨waitUnits_24, rfl, hg_waitUnits_24⟩ := hv_22
                  refine j7_read hx hb hown hK (C := RX14) (T := TX14) (N := 74) rfl hly_16_54 hlk_106 (hh_23.at 0 rfl) dX14_isIdOf_103 ?_
                  refine lv_bipush (v := 20) hx hb dX14_isIdOf_106 (by decide) ?_
                  refine lv_iload_n hx hb dX14_isIdOf_108 rfl (lv_at hl 1 rfl) ?_
                  refine lv_imul hx hb dX14_isIdOf_109 ?_
                  refine lv_topi (fun z_25 ez_25 => ?_)
                  have hz_25 : z_25.toInt = 20 * a1.toInt := by rw [ez_25]; exact jb_imul2 ((by decide)) (rfl) (by omega)
                  refine lv_iload hx hb dX14_isIdOf_110 (lv_at hl 4 rfl) ?_
                  refine lv_iadd hx hb dX14_isIdOf_112 ?_
                  refine lv_topi (fun z_26 ez_26 => ?_)
                  have hz_26 : z_26.toInt = z_25.toInt + v4_18.toInt := by rw [ez_26]; exact jb_iadd2 (rfl) (rfl) (by omega)
                  refine j7_iald hx hb hK hh_23 hB101 1 rfl (by decide) hg_waitUnits_24 (x := z_26.toInt) (rfl) (by omega) dX14_isIdOf_113 (fun z_27 (hz_27 : True) => ?_)
                  refine lv_aload_n hx hb dX14_isIdOf_114 rfl (lv_at hl 0 rfl) ?_
                  obtain ⟨v_28, hv_28, hh_29⟩ := hh_23.pin (C := RX14) (T := TX14) (N := 74) hB16 rfl (by decide) hg_r0 (i := 27) (by decide) rfl
                  clear hh_23
                  obtain ⟨pool_30, rfl, hg_pool_30⟩ := hv_28
                  refine j7_read hx hb hown hK (C := RX14) (T := TX14) (N := 74) rfl hly_16_27 hlk_65 (hh_29.at 0 rfl) dX14_isIdOf_115 ?_
                  refine lv_aload_n hx hb dX14_isIdOf_118 rfl (lv_at hl 0 rfl) ?_
                  refine j7_read hx hb hown hK (C := RX14) (T := TX14) (N := 74) rfl hly_16_22 hlk_52 (hh_29.at 4 rfl) dX14_isIdOf_119 ?_
                  refine lv_iload_n hx hb dX14_isIdOf_122 rfl (lv_at hl 2 rfl) ?_
                  refine j7_ialdM hx hb hK hh_29 hB122 1 rfl (by decide) hg_xb (x := a2.toInt) (rfl) (by omega) (j := 0) rfl dX14_isIdOf_123 (fun z_31 ez_31 (hz_31 : 0 ≤ z_31.toInt ∧ z_31.toInt ≤ 3100) => ?_)
                  have hqz_31 : z_31.toInt = jSo fb (a2.toInt) := by unfold jSo; rw [ez_31]
                  refine lv_iload hx hb dX14_isIdOf_124 (lv_at hl 4 rfl) ?_
                  refine lv_iadd hx hb dX14_isIdOf_126 ?_
                  refine lv_topi (fun z_32 ez_32 => ?_)
                  have hz_32 : z_32.toInt = z_31.toInt + v4_18.toInt := by rw [ez_32]; exact jb_iadd2 (rfl) (rfl) (by omega)
                  refine j7_iald hx hb hK hh_29 hB127 1 rfl (by decide) hg_pool_30 (x := z_32.toInt) (rfl) (by omega) dX14_isIdOf_127 (fun z_33 (hz_33 : True) => ?_)
                  refine lv_icmp_ne (tgt := 135) hx hb dX14_isIdOf_128 (by decide) (fun c_34 => ?_) (fun c_34 => ?_)
                  · skip
                    have c_34' : z_27.toInt ≠ z_33.toInt := jb_ne (rfl) (rfl) c_34
                    refine lv_iconst (v := 0) hx hb dX14_isIdOf_135 (by decide) ?_
                    refine lv_istore_n (lv' := [(3, .int 0), (0, .ref r0), (1, .int a1), (2, .int a2), (4, .int v4_18)]) hx hb dX14_isIdOf_136 rfl hl (by decide) rfl (fun ls hl => ?_)
                    obtain ⟨z_35, ez_35⟩ : ∃ y : Int32, y = v4_18 + 1 := ⟨_, rfl⟩
                    refine lv_iinc (v := z_35) (lv' := [(4, .int z_35), (3, .int 0), (0, .ref r0), (1, .int a1), (2, .int a2)]) hx hb dX14_isIdOf_137 hl (k := 4) rfl (by rw [ez_35]; rfl) (by decide) rfl (fun ls hl => ?_)
                    have hz_35 : z_35.toInt = v4_18.toInt + 1 := by rw [ez_35]; exact jb_iadd2 (rfl) (by decide) (by omega)
                    refine lv_goto (tgt := 87) hx hb dX14_isIdOf_140 (by decide) ?_
                    exact L87 0 z_35 _ _ (hh_29.sub (L1 := [(r0, 16, 17, .ref sort_7), (r0, 16, 52, .ref waitString_3), (r0, 16, 22, .ref xb), (r0, 16, 23, .ref xe), (r0, 16, 55, .ref zw)]) [2, 3, 4, 5, 6] rfl (M1 := [(xb, 122, 3100, ca 1, fb), (xe, 123, 3100, ca 1, fe), (zw, 203, 12, ca 1, fl)]) [0, 1, 2] rfl (I1 := []) [] rfl) (Or.inl rfl) (by first | omega | (refine ⟨?_, ?_, ?_, ?_, ?_⟩ <;> (first | omega | rfl | assumption | decide | exact Or.inl rfl | exact Or.inr rfl | (simp only; omega)))) (by omega) _ (lv_sub hl [2, 3, 4, 1, 0] rfl)
                  · skip
                    have c_34' : z_27.toInt = z_33.toInt := jb_ne_n (rfl) (rfl) c_34
                    refine lv_iconst (v := 1) hx hb dX14_isIdOf_131 (by decide) ?_
                    refine lv_goto (tgt := 136) hx hb dX14_isIdOf_132 (by decide) ?_
                    refine lv_istore_n (lv' := [(3, .int 1), (0, .ref r0), (1, .int a1), (2, .int a2), (4, .int v4_18)]) hx hb dX14_isIdOf_136 rfl hl (by decide) rfl (fun ls hl => ?_)
                    obtain ⟨z_36, ez_36⟩ : ∃ y : Int32, y = v4_18 + 1 := ⟨_, rfl⟩
                    refine lv_iinc (v := z_36) (lv' := [(4, .int z_36), (3, .int 1), (0, .ref r0), (1, .int a1), (2, .int a2)]) hx hb dX14_isIdOf_137 hl (k := 4) rfl (by rw [ez_36]; rfl) (by decide) rfl (fun ls hl => ?_)
                    have hz_36 : z_36.toInt = v4_18.toInt + 1 := by rw [ez_36]; exact jb_iadd2 (rfl) (by decide) (by omega)
                    refine lv_goto (tgt := 87) hx hb dX14_isIdOf_140 (by decide) ?_
                    exact L87 1 z_36 _ _ (hh_29.sub (L1 := [(r0, 16, 17, .ref sort_7), (r0, 16, 52, .ref waitString_3), (r0, 16, 22, .ref xb), (r0, 16, 23, .ref xe), (r0, 16, 55, .ref zw)]) [2, 3, 4, 5, 6] rfl (M1 := [(xb, 122, 3100, ca 1, fb), (xe, 123, 3100, ca 1, fe), (zw, 203, 12, ca 1, fl)]) [0, 1, 2] rfl (I1 := []) [] rfl) (Or.inr rfl) (by first | omega | (refine ⟨?_, ?_, ?_, ?_, ?_⟩ <;> (first | omega | rfl | assumption | decide | exact Or.inl rfl | exact Or.inr rfl | (simp only; omega)))) (by omega) _ (lv_sub hl [2, 3, 4, 1, 0] rfl)
          exact L87 (20 - (0 : Int32).toInt : Int).toNat.succ w0_17 0 _ _ hh_17 (hb_w0_17) (by first | omega | (refine ⟨?_, ?_, ?_, ?_, ?_⟩ <;> (first | omega | rfl | assumption | decide | exact Or.inl rfl | exact Or.inr rfl | (simp only; omega)))) (by omega) _ (lv_sub hl [2, 3, 4, 1, 0] rfl)
        refine lv_icmp_ne (tgt := 82) hx hb dX14_isIdOf_75 (by decide) (fun c_37 => ?_) (fun c_37 => ?_)
        · skip
          have c_37' : z_13.toInt ≠ z_16.toInt := jb_ne (rfl) (rfl) c_37
          refine lv_iconst (v := 0) hx hb dX14_isIdOf_82 (by decide) ?_
          exact C83 0 _ _ hh_6 (Or.inl rfl) (by first | omega | (refine ⟨?_, ?_, ?_⟩ <;> (first | omega | rfl | assumption | decide | exact Or.inl rfl | exact Or.inr rfl | (simp only; omega)))) _ (lv_sub hl [0, 1, 2] rfl)
        · skip
          have c_37' : z_13.toInt = z_16.toInt := jb_ne_n (rfl) (rfl) c_37
          refine lv_iconst (v := 1) hx hb dX14_isIdOf_78 (by decide) ?_
          refine lv_goto (tgt := 83) hx hb dX14_isIdOf_79 (by decide) ?_
          exact C83 1 _ _ hh_6 (Or.inr rfl) (by first | omega | (refine ⟨?_, ?_, ?_⟩ <;> (first | omega | rfl | assumption | decide | exact Or.inl rfl | exact Or.inr rfl | (simp only; omega)))) _ (lv_sub hl [0, 1, 2] rfl)
      · skip
        have c_12' : z_11.toInt = 0 := jb_ne_n (rfl) ((by decide)) c_12
        refine lv_aload_n hx hb dX14_isIdOf_35 rfl (lv_at hl 0 rfl) ?_
        obtain ⟨v_38, hv_38, hh_39⟩ := hh_6.pin (C := RX14) (T := TX14) (N := 74) hB16 rfl (by decide) hg_r0 (i := 53) (by decide) rfl
        clear hh_6
        obtain ⟨waitInt_40, rfl, hg_waitInt_40⟩ := hv_38
        refine j7_read hx hb hown hK (C := RX14) (T := TX14) (N := 74) rfl hly_16_53 hlk_103 (hh_39.at 0 rfl) dX14_isIdOf_36 ?_
        refine lv_iload_n hx hb dX14_isIdOf_39 rfl (lv_at hl 1 rfl) ?_
        refine j7_iald hx hb hK hh_39 hB101 1 rfl (by decide) hg_waitInt_40 (x := a1.toInt) (rfl) (by omega) dX14_isIdOf_40 (fun z_41 (hz_41 : True) => ?_)
        refine lv_aload_n hx hb dX14_isIdOf_41 rfl (lv_at hl 0 rfl) ?_
        obtain ⟨v_42, hv_42, hh_43⟩ := hh_39.pin (C := RX14) (T := TX14) (N := 74) hB16 rfl (by decide) hg_r0 (i := 25) (by decide) rfl
        clear hh_39
        obtain ⟨ints_44, rfl, hg_ints_44⟩ := hv_42
        refine j7_read hx hb hown hK (C := RX14) (T := TX14) (N := 74) rfl hly_16_25 hlk_62 (hh_43.at 0 rfl) dX14_isIdOf_42 ?_
        refine lv_iload_n hx hb dX14_isIdOf_45 rfl (lv_at hl 2 rfl) ?_
        refine j7_iald hx hb hK hh_43 hB125 1 rfl (by decide) hg_ints_44 (x := a2.toInt) (rfl) (by omega) dX14_isIdOf_46 (fun z_45 (hz_45 : True) => ?_)
        refine lv_icmp_ne (tgt := 54) hx hb dX14_isIdOf_47 (by decide) (fun c_46 => ?_) (fun c_46 => ?_)
        · skip
          have c_46' : z_41.toInt ≠ z_45.toInt := jb_ne (rfl) (rfl) c_46
          refine lv_iconst (v := 0) hx hb dX14_isIdOf_54 (by decide) ?_
          rw [hQ]
          exact W.zret (v := 0) hx hb hr (jb_nz (Or.inl rfl)) (fun t ht hW => ⟨⟨0, (), rfl, ⟨(Or.inl rfl), by first | omega | (refine ⟨?_, ?_⟩ <;> (first | omega | rfl | assumption | decide | exact Or.inl rfl | exact Or.inr rfl | (simp only; omega)))⟩, hh_43.rt (M1 := []) [] rfl ht⟩, by rw [ht]; try exact hh_43.1.1, fun q h9 hq => by rw [ht]; try exact hh_43.1.2.1 q h9 hq⟩) hh_43.1.2.2 dX14_isIdOf_55
        · skip
          have c_46' : z_41.toInt = z_45.toInt := jb_ne_n (rfl) (rfl) c_46
          refine lv_iconst (v := 1) hx hb dX14_isIdOf_50 (by decide) ?_
          refine lv_goto (tgt := 55) hx hb dX14_isIdOf_51 (by decide) ?_
          rw [hQ]
          exact W.zret (v := 1) hx hb hr (jb_nz (Or.inr rfl)) (fun t ht hW => ⟨⟨1, (), rfl, ⟨(Or.inr rfl), by first | omega | (refine ⟨?_, ?_⟩ <;> (first | omega | rfl | assumption | decide | exact Or.inl rfl | exact Or.inr rfl | (simp only; omega)))⟩, hh_43.rt (M1 := []) [] rfl ht⟩, by rw [ht]; try exact hh_43.1.1, fun q h9 hq => by rw [ht]; try exact hh_43.1.2.1 q h9 hq⟩) hh_43.1.2.2 dX14_isIdOf_55
    · skip
      have c_10' : z_4.toInt ≠ 0 := jb_eq_n (rfl) ((by decide)) c_10
      refine lv_iconst (v := 0) hx hb dX14_isIdOf_24 (by decide) ?_
      rw [hQ]
      exact W.zret (v := 0) hx hb hr (jb_nz (Or.inl rfl)) (fun t ht hW => ⟨⟨0, (), rfl, ⟨(Or.inl rfl), by first | omega | (refine ⟨?_, ?_⟩ <;> (first | omega | rfl | assumption | decide | exact Or.inl rfl | exact Or.inr rfl | (simp only; omega)))⟩, hh_6.rt (M1 := []) [] rfl ht⟩, by rw [ht]; try exact hh_6.1.1, fun q h9 hq => by rw [ht]; try exact hh_6.1.2.1 q h9 hq⟩) hh_6.1.2.2 dX14_isIdOf_25
  · skip
    have c_9' : z_8.toInt = 4 := jb_ne_n (rfl) ((by decide)) c_9
    refine lv_iconst (v := 1) hx hb dX14_isIdOf_16 (by decide) ?_
    refine lv_goto (tgt := 21) hx hb dX14_isIdOf_17 (by decide) ?_
    refine lv_icmp_eq (tgt := 26) hx hb dX14_isIdOf_21 (by decide) (fun c_47 => ?_) (fun c_47 => ?_)
    · skip
      have c_47' : z_4.toInt = 1 := jb_eq (rfl) ((by decide)) c_47
      refine lv_aload_n hx hb dX14_isIdOf_26 rfl (lv_at hl 0 rfl) ?_
      refine j7_read hx hb hown hK (C := RX14) (T := TX14) (N := 74) rfl hly_16_52 hlk_100 (hh_6.at 1 rfl) dX14_isIdOf_27 ?_
      refine lv_iload_n hx hb dX14_isIdOf_30 rfl (lv_at hl 1 rfl) ?_
      refine j7_zald hx hb hK hh_6 hB103 3 rfl (by decide) hg_waitString_3 (x := a1.toInt) (rfl) (by omega) dX14_isIdOf_31 (fun z_48 (hz_48 : (z_48 = 0 ∨ z_48 = 1)) => ?_)
      have hz_48' := jb_01 hz_48
      refine lv_if_ne (tgt := 56) hx hb dX14_isIdOf_32 (by decide) (fun c_49 => ?_) (fun c_49 => ?_)
      · skip
        have c_49' : z_48.toInt ≠ 0 := jb_ne (rfl) ((by decide)) c_49
        refine lv_aload_n hx hb dX14_isIdOf_56 rfl (lv_at hl 0 rfl) ?_
        refine j7_read hx hb hown hK (C := RX14) (T := TX14) (N := 74) rfl hly_16_55 hlk_109 (hh_6.at 4 rfl) dX14_isIdOf_57 ?_
        refine lv_iload_n hx hb dX14_isIdOf_60 rfl (lv_at hl 1 rfl) ?_
        refine j7_ialdM hx hb hK hh_6 hB203 1 rfl (by decide) hg_zw (x := a1.toInt) (rfl) (by omega) (j := 2) rfl dX14_isIdOf_61 (fun z_50 ez_50 (hz_50 : -3300 ≤ z_50.toInt ∧ z_50.toInt ≤ 20) => ?_)
        have hqz_50 : z_50.toInt = jSo fl (a1.toInt) := by unfold jSo; rw [ez_50]
        refine lv_aload_n hx hb dX14_isIdOf_62 rfl (lv_at hl 0 rfl) ?_
        refine j7_read hx hb hown hK (C := RX14) (T := TX14) (N := 74) rfl hly_16_23 hlk_55 (hh_6.at 3 rfl) dX14_isIdOf_63 ?_
        refine lv_iload_n hx hb dX14_isIdOf_66 rfl (lv_at hl 2 rfl) ?_
        refine j7_ialdM hx hb hK hh_6 hB123 1 rfl (by decide) hg_xe (x := a2.toInt) (rfl) (by omega) (j := 1) rfl dX14_isIdOf_67 (fun z_51 ez_51 (hz_51 : 0 ≤ z_51.toInt ∧ z_51.toInt ≤ 3100) => ?_)
        have hqz_51 : z_51.toInt = jSo fe (a2.toInt) := by unfold jSo; rw [ez_51]
        refine lv_aload_n hx hb dX14_isIdOf_68 rfl (lv_at hl 0 rfl) ?_
        refine j7_read hx hb hown hK (C := RX14) (T := TX14) (N := 74) rfl hly_16_22 hlk_52 (hh_6.at 2 rfl) dX14_isIdOf_69 ?_
        refine lv_iload_n hx hb dX14_isIdOf_72 rfl (lv_at hl 2 rfl) ?_
        refine j7_ialdM hx hb hK hh_6 hB122 1 rfl (by decide) hg_xb (x := a2.toInt) (rfl) (by omega) (j := 0) rfl dX14_isIdOf_73 (fun z_52 ez_52 (hz_52 : 0 ≤ z_52.toInt ∧ z_52.toInt ≤ 3100) => ?_)
        have hqz_52 : z_52.toInt = jSo fb (a2.toInt) := by unfold jSo; rw [ez_52]
        refine lv_isub hx hb dX14_isIdOf_74 ?_
        refine lv_topi (fun z_53 ez_53 => ?_)
        have hz_53 : z_53.toInt = z_51.toInt - z_52.toInt := by rw [ez_53]; exact jb_isub2 (rfl) (rfl) (by omega)
        have C83 : ∀ (w0_54 : Int32) (H_54 : Heap) (locs_54 : List Loc), jSt (dC, dI) B base G0 G0 EX14_isIdOf s.heap 0 0 [(r0, 16, 17, .ref sort_7), (r0, 16, 52, .ref waitString_3), (r0, 16, 22, .ref xb), (r0, 16, 23, .ref xe), (r0, 16, 55, .ref zw)] [(xb, 122, 3100, ca 1, fb), (xe, 123, 3100, ca 1, fe), (zw, 203, 12, ca 1, fl)] [] H_54 locs_54 → (w0_54 = 0 ∨ w0_54 = 1) → (0 ≤ w0_54.toInt ∧ w0_54.toInt ≤ 1 ∧ (w0_54.toInt = 1 → jSo fe a2.toInt - jSo fb a2.toInt = jSo fl a1.toInt)) → ∀ ls : Array Slot, lv_has ls 5 [(0, .ref r0), (1, .int a1), (2, .int a2)] → W p l e R s m ([.ref r0, .int a1, .int a2] : List Value).toArray below meth c H_54 locs_54 0 0 Q (F0 m 83 ls [.int w0_54]) := by
          intro w0_54 H_54 locs_54 hh_54 hb_w0_54 hi_54 ls hl
          obtain ⟨hi_54_0, hi_54_1, hi_54_2⟩ := hi_54
          have hb_w0_54' := jb_01 hb_w0_54
          refine lv_istore_n (lv' := [(3, .int w0_54), (0, .ref r0), (1, .int a1), (2, .int a2)]) hx hb dX14_isIdOf_83 rfl hl (by decide) rfl (fun ls hl => ?_)
          refine lv_iconst (v := 0) hx hb dX14_isIdOf_84 (by decide) ?_
          refine lv_istore (lv' := [(4, .int 0), (3, .int w0_54), (0, .ref r0), (1, .int a1), (2, .int a2)]) hx hb dX14_isIdOf_85 hl (by decide) rfl (fun ls hl => ?_)
          have L87 : ∀ (N : Nat) (v3_55 : Int32) (v4_55 : Int32) (H_55 : Heap) (locs_55 : List Loc), jSt (dC, dI) B base G0 G0 EX14_isIdOf s.heap 0 0 [(r0, 16, 17, .ref sort_7), (r0, 16, 52, .ref waitString_3), (r0, 16, 22, .ref xb), (r0, 16, 23, .ref xe), (r0, 16, 55, .ref zw)] [(xb, 122, 3100, ca 1, fb), (xe, 123, 3100, ca 1, fe), (zw, 203, 12, ca 1, fl)] [] H_55 locs_55 → (v3_55 = 0 ∨ v3_55 = 1) → (0 ≤ v4_55.toInt ∧ v4_55.toInt ≤ 20 ∧ 0 ≤ v3_55.toInt ∧ v3_55.toInt ≤ 1 ∧ (v3_55.toInt = 1 → jSo fe a2.toInt - jSo fb a2.toInt = jSo fl a1.toInt)) → (20 - v4_55.toInt : Int) < N → ∀ ls : Array Slot, lv_has ls 5 [(0, .ref r0), (1, .int a1), (2, .int a2), (3, .int v3_55), (4, .int v4_55)] → W p l e R s m ([.ref r0, .int a1, .int a2] : List Value).toArray below meth c H_55 locs_55 0 0 Q (F0 m 87 ls []) := by
            intro N
            induction N with
            | zero => intro v3_55 v4_55 H_55 locs_55 hh_55 hb_v3_55 hi_55 hm; exact absurd hm (by omega)
            | succ N L87 =>
              intro v3_55 v4_55 H_55 locs_55 hh_55 hb_v3_55 hi_55 hm_55 ls hl
              obtain ⟨hi_55_0, hi_55_1, hi_55_2, hi_55_3, hi_55_4⟩ := hi_55
              have hb_v3_55' := jb_01 hb_v3_55
              refine lv_iload hx hb dX14_isIdOf_87 (lv_at hl 4 rfl) ?_
              refine lv_aload_n hx hb dX14_isIdOf_89 rfl (lv_at hl 0 rfl) ?_
              refine j7_read hx hb hown hK (C := RX14) (T := TX14) (N := 74) rfl hly_16_55 hlk_109 (hh_55.at 4 rfl) dX14_isIdOf_90 ?_
              refine lv_iload_n hx hb dX14_isIdOf_93 rfl (lv_at hl 1 rfl) ?_
              refine j7_ialdM hx hb hK hh_55 hB203 1 rfl (by decide) hg_zw (x := a1.toInt) (rfl) (by omega) (j := 2) rfl dX14_isIdOf_94 (fun z_56 ez_56 (hz_56 : -3300 ≤ z_56.toInt ∧ z_56.toInt ≤ 20) => ?_)
              have hqz_56 : z_56.toInt = jSo fl (a1.toInt) := by unfold jSo; rw [ez_56]
              refine lv_icmp_ge (tgt := 143) hx hb dX14_isIdOf_95 (by decide) (fun c_57 => ?_) (fun c_57 => ?_)
              · skip
                have c_57' : v4_55.toInt ≥ z_56.toInt := jb_ge (rfl) (rfl) c_57
                refine lv_iload_n hx hb dX14_isIdOf_143 rfl (lv_at hl 3 rfl) ?_
                rw [hQ]
                exact W.zret (v := v3_55) hx hb hr (jb_nz (hb_v3_55)) (fun t ht hW => ⟨⟨v3_55, (), rfl, ⟨(hb_v3_55), by first | omega | (refine ⟨?_, ?_⟩ <;> (first | omega | rfl | assumption | decide | exact Or.inl rfl | exact Or.inr rfl | (simp only; omega)))⟩, hh_55.rt (M1 := []) [] rfl ht⟩, by rw [ht]; try exact hh_55.1.1, fun q h9 hq => by rw [ht]; try exact hh_55.1.2.1 q h9 hq⟩) hh_55.1.2.2 dX14_isIdOf_144
              · skip
                have c_57' : v4_55.toInt < z_56.toInt := jb_ge_n (rfl) (rfl) c_57
                refine lv_iload_n hx hb dX14_isIdOf_98 rfl (lv_at hl 3 rfl) ?_
                refine lv_if_eq (tgt := 143) hx hb dX14_isIdOf_99 (by decide) (fun c_58 => ?_) (fun c_58 => ?_)
                · skip
                  have c_58' : v3_55.toInt = 0 := jb_eq (rfl) ((by decide)) c_58
                  refine lv_iload_n hx hb dX14_isIdOf_143 rfl (lv_at hl 3 rfl) ?_
                  rw [hQ]
                  exact W.zret (v := v3_55) hx hb hr (jb_nz (hb_v3_55)) (fun t ht hW => ⟨⟨v3_55, (), rfl, ⟨(hb_v3_55), by first | omega | (refine ⟨?_, ?_⟩ <;> (first | omega | rfl | assumption | decide | exact Or.inl rfl | exact Or.inr rfl | (simp only; omega)))⟩, hh_55.rt (M1 := []) [] rfl ht⟩, by rw [ht]; try exact hh_55.1.1, fun q h9 hq => by rw [ht]; try exact hh_55.1.2.1 q h9 hq⟩) hh_55.1.2.2 dX14_isIdOf_144
                · skip
                  have c_58' : v3_55.toInt ≠ 0 := jb_eq_n (rfl) ((by decide)) c_58
                  refine lv_aload_n hx hb dX14_isIdOf_102 rfl (lv_at hl 0 rfl) ?_
                  obtain ⟨v_59, hv_59, hh_60⟩ := hh_55.pin (C := RX14) (T := TX14) (N := 74) hB16 rfl (by decide) hg_r0 (i := 54) (by decide) rfl
                  clear hh_55
                  obtain ⟨waitUnits_61, rfl, hg_waitUnits_61⟩ := hv_59
                  refine j7_read hx hb hown hK (C := RX14) (T := TX14) (N := 74) rfl hly_16_54 hlk_106 (hh_60.at 0 rfl) dX14_isIdOf_103 ?_
                  refine lv_bipush (v := 20) hx hb dX14_isIdOf_106 (by decide) ?_
                  refine lv_iload_n hx hb dX14_isIdOf_108 rfl (lv_at hl 1 rfl) ?_
                  refine lv_imul hx hb dX14_isIdOf_109 ?_
                  refine lv_topi (fun z_62 ez_62 => ?_)
                  have hz_62 : z_62.toInt = 20 * a1.toInt := by rw [ez_62]; exact jb_imul2 ((by decide)) (rfl) (by omega)
                  refine lv_iload hx hb dX14_isIdOf_110 (lv_at hl 4 rfl) ?_
                  refine lv_iadd hx hb dX14_isIdOf_112 ?_
                  refine lv_topi (fun z_63 ez_63 => ?_)
                  have hz_63 : z_63.toInt = z_62.toInt + v4_55.toInt := by rw [ez_63]; exact jb_iadd2 (rfl) (rfl) (by omega)
                  refine j7_iald hx hb hK hh_60 hB101 1 rfl (by decide) hg_waitUnits_61 (x := z_63.toInt) (rfl) (by omega) dX14_isIdOf_113 (fun z_64 (hz_64 : True) => ?_)
                  refine lv_aload_n hx hb dX14_isIdOf_114 rfl (lv_at hl 0 rfl) ?_
                  obtain ⟨v_65, hv_65, hh_66⟩ := hh_60.pin (C := RX14) (T := TX14) (N := 74) hB16 rfl (by decide) hg_r0 (i := 27) (by decide) rfl
                  clear hh_60
                  obtain ⟨pool_67, rfl, hg_pool_67⟩ := hv_65
                  refine j7_read hx hb hown hK (C := RX14) (T := TX14) (N := 74) rfl hly_16_27 hlk_65 (hh_66.at 0 rfl) dX14_isIdOf_115 ?_
                  refine lv_aload_n hx hb dX14_isIdOf_118 rfl (lv_at hl 0 rfl) ?_
                  refine j7_read hx hb hown hK (C := RX14) (T := TX14) (N := 74) rfl hly_16_22 hlk_52 (hh_66.at 4 rfl) dX14_isIdOf_119 ?_
                  refine lv_iload_n hx hb dX14_isIdOf_122 rfl (lv_at hl 2 rfl) ?_
                  refine j7_ialdM hx hb hK hh_66 hB122 1 rfl (by decide) hg_xb (x := a2.toInt) (rfl) (by omega) (j := 0) rfl dX14_isIdOf_123 (fun z_68 ez_68 (hz_68 : 0 ≤ z_68.toInt ∧ z_68.toInt ≤ 3100) => ?_)
                  have hqz_68 : z_68.toInt = jSo fb (a2.toInt) := by unfold jSo; rw [ez_68]
                  refine lv_iload hx hb dX14_isIdOf_124 (lv_at hl 4 rfl) ?_
                  refine lv_iadd hx hb dX14_isIdOf_126 ?_
                  refine lv_topi (fun z_69 ez_69 => ?_)
                  have hz_69 : z_69.toInt = z_68.toInt + v4_55.toInt := by rw [ez_69]; exact jb_iadd2 (rfl) (rfl) (by omega)
                  refine j7_iald hx hb hK hh_66 hB127 1 rfl (by decide) hg_pool_67 (x := z_69.toInt) (rfl) (by omega) dX14_isIdOf_127 (fun z_70 (hz_70 : True) => ?_)
                  refine lv_icmp_ne (tgt := 135) hx hb dX14_isIdOf_128 (by decide) (fun c_71 => ?_) (fun c_71 => ?_)
                  · skip
                    have c_71' : z_64.toInt ≠ z_70.toInt := jb_ne (rfl) (rfl) c_71
                    refine lv_iconst (v := 0) hx hb dX14_isIdOf_135 (by decide) ?_
                    refine lv_istore_n (lv' := [(3, .int 0), (0, .ref r0), (1, .int a1), (2, .int a2), (4, .int v4_55)]) hx hb dX14_isIdOf_136 rfl hl (by decide) rfl (fun ls hl => ?_)
                    obtain ⟨z_72, ez_72⟩ : ∃ y : Int32, y = v4_55 + 1 := ⟨_, rfl⟩
                    refine lv_iinc (v := z_72) (lv' := [(4, .int z_72), (3, .int 0), (0, .ref r0), (1, .int a1), (2, .int a2)]) hx hb dX14_isIdOf_137 hl (k := 4) rfl (by rw [ez_72]; rfl) (by decide) rfl (fun ls hl => ?_)
                    have hz_72 : z_72.toInt = v4_55.toInt + 1 := by rw [ez_72]; exact jb_iadd2 (rfl) (by decide) (by omega)
                    refine lv_goto (tgt := 87) hx hb dX14_isIdOf_140 (by decide) ?_
                    exact L87 0 z_72 _ _ (hh_66.sub (L1 := [(r0, 16, 17, .ref sort_7), (r0, 16, 52, .ref waitString_3), (r0, 16, 22, .ref xb), (r0, 16, 23, .ref xe), (r0, 16, 55, .ref zw)]) [2, 3, 4, 5, 6] rfl (M1 := [(xb, 122, 3100, ca 1, fb), (xe, 123, 3100, ca 1, fe), (zw, 203, 12, ca 1, fl)]) [0, 1, 2] rfl (I1 := []) [] rfl) (Or.inl rfl) (by first | omega | (refine ⟨?_, ?_, ?_, ?_, ?_⟩ <;> (first | omega | rfl | assumption | decide | exact Or.inl rfl | exact Or.inr rfl | (simp only; omega)))) (by omega) _ (lv_sub hl [2, 3, 4, 1, 0] rfl)
                  · skip
                    have c_71' : z_64.toInt = z_70.toInt := jb_ne_n (rfl) (rfl) c_71
                    refine lv_iconst (v := 1) hx hb dX14_isIdOf_131 (by decide) ?_
                    refine lv_goto (tgt := 136) hx hb dX14_isIdOf_132 (by decide) ?_
                    refine lv_istore_n (lv' := [(3, .int 1), (0, .ref r0), (1, .int a1), (2, .int a2), (4, .int v4_55)]) hx hb dX14_isIdOf_136 rfl hl (by decide) rfl (fun ls hl => ?_)
                    obtain ⟨z_73, ez_73⟩ : ∃ y : Int32, y = v4_55 + 1 := ⟨_, rfl⟩
                    refine lv_iinc (v := z_73) (lv' := [(4, .int z_73), (3, .int 1), (0, .ref r0), (1, .int a1), (2, .int a2)]) hx hb dX14_isIdOf_137 hl (k := 4) rfl (by rw [ez_73]; rfl) (by decide) rfl (fun ls hl => ?_)
                    have hz_73 : z_73.toInt = v4_55.toInt + 1 := by rw [ez_73]; exact jb_iadd2 (rfl) (by decide) (by omega)
                    refine lv_goto (tgt := 87) hx hb dX14_isIdOf_140 (by decide) ?_
                    exact L87 1 z_73 _ _ (hh_66.sub (L1 := [(r0, 16, 17, .ref sort_7), (r0, 16, 52, .ref waitString_3), (r0, 16, 22, .ref xb), (r0, 16, 23, .ref xe), (r0, 16, 55, .ref zw)]) [2, 3, 4, 5, 6] rfl (M1 := [(xb, 122, 3100, ca 1, fb), (xe, 123, 3100, ca 1, fe), (zw, 203, 12, ca 1, fl)]) [0, 1, 2] rfl (I1 := []) [] rfl) (Or.inr rfl) (by first | omega | (refine ⟨?_, ?_, ?_, ?_, ?_⟩ <;> (first | omega | rfl | assumption | decide | exact Or.inl rfl | exact Or.inr rfl | (simp only; omega)))) (by omega) _ (lv_sub hl [2, 3, 4, 1, 0] rfl)
          exact L87 (20 - (0 : Int32).toInt : Int).toNat.succ w0_54 0 _ _ hh_54 (hb_w0_54) (by first | omega | (refine ⟨?_, ?_, ?_, ?_, ?_⟩ <;> (first | omega | rfl | assumption | decide | exact Or.inl rfl | exact Or.inr rfl | (simp only; omega)))) (by omega) _ (lv_sub hl [2, 3, 4, 1, 0] rfl)
        refine lv_icmp_ne (tgt := 82) hx hb dX14_isIdOf_75 (by decide) (fun c_74 => ?_) (fun c_74 => ?_)
        · skip
          have c_74' : z_50.toInt ≠ z_53.toInt := jb_ne (rfl) (rfl) c_74
          refine lv_iconst (v := 0) hx hb dX14_isIdOf_82 (by decide) ?_
          exact C83 0 _ _ hh_6 (Or.inl rfl) (by first | omega | (refine ⟨?_, ?_, ?_⟩ <;> (first | omega | rfl | assumption | decide | exact Or.inl rfl | exact Or.inr rfl | (simp only; omega)))) _ (lv_sub hl [0, 1, 2] rfl)
        · skip
          have c_74' : z_50.toInt = z_53.toInt := jb_ne_n (rfl) (rfl) c_74
          refine lv_iconst (v := 1) hx hb dX14_isIdOf_78 (by decide) ?_
          refine lv_goto (tgt := 83) hx hb dX14_isIdOf_79 (by decide) ?_
          exact C83 1 _ _ hh_6 (Or.inr rfl) (by first | omega | (refine ⟨?_, ?_, ?_⟩ <;> (first | omega | rfl | assumption | decide | exact Or.inl rfl | exact Or.inr rfl | (simp only; omega)))) _ (lv_sub hl [0, 1, 2] rfl)
      · skip
        have c_49' : z_48.toInt = 0 := jb_ne_n (rfl) ((by decide)) c_49
        refine lv_aload_n hx hb dX14_isIdOf_35 rfl (lv_at hl 0 rfl) ?_
        obtain ⟨v_75, hv_75, hh_76⟩ := hh_6.pin (C := RX14) (T := TX14) (N := 74) hB16 rfl (by decide) hg_r0 (i := 53) (by decide) rfl
        clear hh_6
        obtain ⟨waitInt_77, rfl, hg_waitInt_77⟩ := hv_75
        refine j7_read hx hb hown hK (C := RX14) (T := TX14) (N := 74) rfl hly_16_53 hlk_103 (hh_76.at 0 rfl) dX14_isIdOf_36 ?_
        refine lv_iload_n hx hb dX14_isIdOf_39 rfl (lv_at hl 1 rfl) ?_
        refine j7_iald hx hb hK hh_76 hB101 1 rfl (by decide) hg_waitInt_77 (x := a1.toInt) (rfl) (by omega) dX14_isIdOf_40 (fun z_78 (hz_78 : True) => ?_)
        refine lv_aload_n hx hb dX14_isIdOf_41 rfl (lv_at hl 0 rfl) ?_
        obtain ⟨v_79, hv_79, hh_80⟩ := hh_76.pin (C := RX14) (T := TX14) (N := 74) hB16 rfl (by decide) hg_r0 (i := 25) (by decide) rfl
        clear hh_76
        obtain ⟨ints_81, rfl, hg_ints_81⟩ := hv_79
        refine j7_read hx hb hown hK (C := RX14) (T := TX14) (N := 74) rfl hly_16_25 hlk_62 (hh_80.at 0 rfl) dX14_isIdOf_42 ?_
        refine lv_iload_n hx hb dX14_isIdOf_45 rfl (lv_at hl 2 rfl) ?_
        refine j7_iald hx hb hK hh_80 hB125 1 rfl (by decide) hg_ints_81 (x := a2.toInt) (rfl) (by omega) dX14_isIdOf_46 (fun z_82 (hz_82 : True) => ?_)
        refine lv_icmp_ne (tgt := 54) hx hb dX14_isIdOf_47 (by decide) (fun c_83 => ?_) (fun c_83 => ?_)
        · skip
          have c_83' : z_78.toInt ≠ z_82.toInt := jb_ne (rfl) (rfl) c_83
          refine lv_iconst (v := 0) hx hb dX14_isIdOf_54 (by decide) ?_
          rw [hQ]
          exact W.zret (v := 0) hx hb hr (jb_nz (Or.inl rfl)) (fun t ht hW => ⟨⟨0, (), rfl, ⟨(Or.inl rfl), by first | omega | (refine ⟨?_, ?_⟩ <;> (first | omega | rfl | assumption | decide | exact Or.inl rfl | exact Or.inr rfl | (simp only; omega)))⟩, hh_80.rt (M1 := []) [] rfl ht⟩, by rw [ht]; try exact hh_80.1.1, fun q h9 hq => by rw [ht]; try exact hh_80.1.2.1 q h9 hq⟩) hh_80.1.2.2 dX14_isIdOf_55
        · skip
          have c_83' : z_78.toInt = z_82.toInt := jb_ne_n (rfl) (rfl) c_83
          refine lv_iconst (v := 1) hx hb dX14_isIdOf_50 (by decide) ?_
          refine lv_goto (tgt := 55) hx hb dX14_isIdOf_51 (by decide) ?_
          rw [hQ]
          exact W.zret (v := 1) hx hb hr (jb_nz (Or.inr rfl)) (fun t ht hW => ⟨⟨1, (), rfl, ⟨(Or.inr rfl), by first | omega | (refine ⟨?_, ?_⟩ <;> (first | omega | rfl | assumption | decide | exact Or.inl rfl | exact Or.inr rfl | (simp only; omega)))⟩, hh_80.rt (M1 := []) [] rfl ht⟩, by rw [ht]; try exact hh_80.1.1, fun q h9 hq => by rw [ht]; try exact hh_80.1.2.1 q h9 hq⟩) hh_80.1.2.2 dX14_isIdOf_55
    · skip
      have c_47' : z_4.toInt ≠ 1 := jb_eq_n (rfl) ((by decide)) c_47
      refine lv_iconst (v := 0) hx hb dX14_isIdOf_24 (by decide) ?_
      rw [hQ]
      exact W.zret (v := 0) hx hb hr (jb_nz (Or.inl rfl)) (fun t ht hW => ⟨⟨0, (), rfl, ⟨(Or.inl rfl), by first | omega | (refine ⟨?_, ?_⟩ <;> (first | omega | rfl | assumption | decide | exact Or.inl rfl | exact Or.inr rfl | (simp only; omega)))⟩, hh_6.rt (M1 := []) [] rfl ht⟩, by rw [ht]; try exact hh_6.1.1, fun q h9 hq => by rw [ht]; try exact hh_6.1.2.1 q h9 hq⟩) hh_6.1.2.2 dX14_isIdOf_25
end
section
theorem dX14_takeId_0 : decode cX14_takeId 0 = .ok (.aload_n 0, 1) := by decide +kernel
theorem dX14_takeId_1 : decode cX14_takeId 1 = .ok (.iload_n 1, 1) := by decide +kernel
theorem dX14_takeId_2 : decode cX14_takeId 2 = .ok (.ifCond .ge 7, 3) := by decide +kernel
theorem dX14_takeId_5 : decode cX14_takeId 5 = .ok (.iconst 1, 1) := by decide +kernel
theorem dX14_takeId_6 : decode cX14_takeId 6 = .ok (.goto 4, 3) := by decide +kernel
theorem dX14_takeId_9 : decode cX14_takeId 9 = .ok (.iconst 0, 1) := by decide +kernel
theorem dX14_takeId_10 : decode cX14_takeId 10 = .ok (.putfield 374, 3) := by decide +kernel
theorem dX14_takeId_13 : decode cX14_takeId 13 = .ok (.iload_n 1, 1) := by decide +kernel
theorem dX14_takeId_14 : decode cX14_takeId 14 = .ok (.ifCond .ge 4, 3) := by decide +kernel
theorem dX14_takeId_17 : decode cX14_takeId 17 = .ok (.return_, 1) := by decide +kernel
theorem dX14_takeId_18 : decode cX14_takeId 18 = .ok (.aload_n 0, 1) := by decide +kernel
theorem dX14_takeId_19 : decode cX14_takeId 19 = .ok (.aload_n 0, 1) := by decide +kernel
theorem dX14_takeId_20 : decode cX14_takeId 20 = .ok (.getfield 37, 3) := by decide +kernel
theorem dX14_takeId_23 : decode cX14_takeId 23 = .ok (.iload_n 1, 1) := by decide +kernel
theorem dX14_takeId_24 : decode cX14_takeId 24 = .ok (.iaload, 1) := by decide +kernel
theorem dX14_takeId_25 : decode cX14_takeId 25 = .ok (.iconst 4, 1) := by decide +kernel
theorem dX14_takeId_26 : decode cX14_takeId 26 = .ok (.if_icmp .ne 7, 3) := by decide +kernel
theorem dX14_takeId_29 : decode cX14_takeId 29 = .ok (.iconst 1, 1) := by decide +kernel
theorem dX14_takeId_30 : decode cX14_takeId 30 = .ok (.goto 4, 3) := by decide +kernel
theorem dX14_takeId_33 : decode cX14_takeId 33 = .ok (.iconst 0, 1) := by decide +kernel
theorem dX14_takeId_34 : decode cX14_takeId 34 = .ok (.putfield 377, 3) := by decide +kernel
theorem dX14_takeId_37 : decode cX14_takeId 37 = .ok (.aload_n 0, 1) := by decide +kernel
theorem dX14_takeId_38 : decode cX14_takeId 38 = .ok (.aload_n 0, 1) := by decide +kernel
theorem dX14_takeId_39 : decode cX14_takeId 39 = .ok (.getfield 377, 3) := by decide +kernel
theorem dX14_takeId_42 : decode cX14_takeId 42 = .ok (.ifCond .eq 7, 3) := by decide +kernel
theorem dX14_takeId_45 : decode cX14_takeId 45 = .ok (.iconst 0, 1) := by decide +kernel
theorem dX14_takeId_46 : decode cX14_takeId 46 = .ok (.goto 9, 3) := by decide +kernel
theorem dX14_takeId_49 : decode cX14_takeId 49 = .ok (.aload_n 0, 1) := by decide +kernel
theorem dX14_takeId_50 : decode cX14_takeId 50 = .ok (.getfield 62, 3) := by decide +kernel
theorem dX14_takeId_53 : decode cX14_takeId 53 = .ok (.iload_n 1, 1) := by decide +kernel
theorem dX14_takeId_54 : decode cX14_takeId 54 = .ok (.iaload, 1) := by decide +kernel
theorem dX14_takeId_55 : decode cX14_takeId 55 = .ok (.putfield 380, 3) := by decide +kernel
theorem dX14_takeId_58 : decode cX14_takeId 58 = .ok (.aload_n 0, 1) := by decide +kernel
theorem dX14_takeId_59 : decode cX14_takeId 59 = .ok (.aload_n 0, 1) := by decide +kernel
theorem dX14_takeId_60 : decode cX14_takeId 60 = .ok (.getfield 377, 3) := by decide +kernel
theorem dX14_takeId_63 : decode cX14_takeId 63 = .ok (.ifCond .eq 19, 3) := by decide +kernel
theorem dX14_takeId_66 : decode cX14_takeId 66 = .ok (.aload_n 0, 1) := by decide +kernel
theorem dX14_takeId_67 : decode cX14_takeId 67 = .ok (.getfield 55, 3) := by decide +kernel
theorem dX14_takeId_70 : decode cX14_takeId 70 = .ok (.iload_n 1, 1) := by decide +kernel
theorem dX14_takeId_71 : decode cX14_takeId 71 = .ok (.iaload, 1) := by decide +kernel
theorem dX14_takeId_72 : decode cX14_takeId 72 = .ok (.aload_n 0, 1) := by decide +kernel
theorem dX14_takeId_73 : decode cX14_takeId 73 = .ok (.getfield 52, 3) := by decide +kernel
theorem dX14_takeId_76 : decode cX14_takeId 76 = .ok (.iload_n 1, 1) := by decide +kernel
theorem dX14_takeId_77 : decode cX14_takeId 77 = .ok (.iaload, 1) := by decide +kernel
theorem dX14_takeId_78 : decode cX14_takeId 78 = .ok (.isub, 1) := by decide +kernel
theorem dX14_takeId_79 : decode cX14_takeId 79 = .ok (.goto 4, 3) := by decide +kernel
theorem dX14_takeId_82 : decode cX14_takeId 82 = .ok (.iconst 0, 1) := by decide +kernel
theorem dX14_takeId_83 : decode cX14_takeId 83 = .ok (.putfield 383, 3) := by decide +kernel
theorem dX14_takeId_86 : decode cX14_takeId 86 = .ok (.iconst 0, 1) := by decide +kernel
theorem dX14_takeId_87 : decode cX14_takeId 87 = .ok (.istore_n 2, 1) := by decide +kernel
theorem dX14_takeId_88 : decode cX14_takeId 88 = .ok (.iload_n 2, 1) := by decide +kernel
theorem dX14_takeId_89 : decode cX14_takeId 89 = .ok (.aload_n 0, 1) := by decide +kernel
theorem dX14_takeId_90 : decode cX14_takeId 90 = .ok (.getfield 383, 3) := by decide +kernel
theorem dX14_takeId_93 : decode cX14_takeId 93 = .ok (.if_icmp .ge 28, 3) := by decide +kernel
theorem dX14_takeId_96 : decode cX14_takeId 96 = .ok (.aload_n 0, 1) := by decide +kernel
theorem dX14_takeId_97 : decode cX14_takeId 97 = .ok (.getfield 68, 3) := by decide +kernel
theorem dX14_takeId_100 : decode cX14_takeId 100 = .ok (.iload_n 2, 1) := by decide +kernel
theorem dX14_takeId_101 : decode cX14_takeId 101 = .ok (.aload_n 0, 1) := by decide +kernel
theorem dX14_takeId_102 : decode cX14_takeId 102 = .ok (.getfield 65, 3) := by decide +kernel
theorem dX14_takeId_105 : decode cX14_takeId 105 = .ok (.aload_n 0, 1) := by decide +kernel
theorem dX14_takeId_106 : decode cX14_takeId 106 = .ok (.getfield 52, 3) := by decide +kernel
theorem dX14_takeId_109 : decode cX14_takeId 109 = .ok (.iload_n 1, 1) := by decide +kernel
theorem dX14_takeId_110 : decode cX14_takeId 110 = .ok (.iaload, 1) := by decide +kernel
theorem dX14_takeId_111 : decode cX14_takeId 111 = .ok (.iload_n 2, 1) := by decide +kernel
theorem dX14_takeId_112 : decode cX14_takeId 112 = .ok (.iadd, 1) := by decide +kernel
theorem dX14_takeId_113 : decode cX14_takeId 113 = .ok (.iaload, 1) := by decide +kernel
theorem dX14_takeId_114 : decode cX14_takeId 114 = .ok (.iastore, 1) := by decide +kernel
theorem dX14_takeId_115 : decode cX14_takeId 115 = .ok (.iinc 2 1, 3) := by decide +kernel
theorem dX14_takeId_118 : decode cX14_takeId 118 = .ok (.goto (-30), 3) := by decide +kernel
theorem dX14_takeId_121 : decode cX14_takeId 121 = .ok (.return_, 1) := by decide +kernel
def EX14_takeId : List (Nat × Nat) := [(16, 36), (16, 37), (16, 39), (16, 40), (101, 0)]
set_option maxHeartbeats 4000000 in
set_option maxRecDepth 20000 in
theorem uX14_takeId (l : Launch) (dC : Nat → ClassId) (dI : Nat → Nat → Nat) (ca : Nat → ClassId) (base : Nat) (B : jF) (hB : jBok B) (hAp : jAp (dC, dI)) (hB16 : ∀ n G a H, B 16 n G a H ↔ jOb (dC, dI) 16 74 (F16 n G) a H) (hB101 : ∀ n G a H, B 101 n G a H ↔ jAr (dC, dI) (ca 1) (fun j z => True) n a H) (hB117 : ∀ n G a H, B 117 n G a H ↔ jAr (dC, dI) (ca 1) (fun j z => True) n a H) (hB122 : ∀ n G a H, B 122 n G a H ↔ jAr (dC, dI) (ca 1) (fun j z => 0 ≤ z.toInt ∧ z.toInt ≤ 3100) n a H) (hB123 : ∀ n G a H, B 123 n G a H ↔ jAr (dC, dI) (ca 1) (fun j z => 0 ≤ z.toInt ∧ z.toInt ≤ 3100) n a H) (hB125 : ∀ n G a H, B 125 n G a H ↔ jAr (dC, dI) (ca 1) (fun j z => True) n a H) (hB127 : ∀ n G a H, B 127 n G a H ↔ jAr (dC, dI) (ca 1) (fun j z => True) n a H) (G0 : jT) (H0 : Heap) (r0 : Nat) (a1 : Int32) (zm : Nat) (xb : Nat) (xe : Nat) (fs : Nat → Int32) (fb : Nat → Int32) (fe : Nat → Int32) : Met l yX14_takeId (jw yX14_takeId cX14_takeId 3 none) ({ frames := 0, cells := 0, slots := 0, locals := 0 }) (va_Pc [.ref r0, .int a1] (fun U => U.heap = H0 ∧ jX B base G0 [] H0 ∧ jG dC dI ca base U ∧ G0 r0 = some (16, 0) ∧ G0 zm = some (117, 3100) ∧ G0 xb = some (122, 3100) ∧ G0 xe = some (123, 3100) ∧ jP (dC, dI) G0 H0 [(r0, 16, 17, .ref zm), (r0, 16, 22, .ref xb), (r0, 16, 23, .ref xe)] ∧ jMc (dC, dI) G0 H0 [(zm, 117, 3100, ca 1, fs), (xb, 122, 3100, ca 1, fb), (xe, 123, 3100, ca 1, fe)] ∧ a1.toInt ≤ 3099 ∧ (0 ≤ a1.toInt → jSo fs a1.toInt = 4 → jSo fe a1.toInt - jSo fb a1.toInt ≤ 20))) (va_Qv (S := Unit) (fun u => True) (fun u t => jRt (dC, dI) B base G0 EX14_takeId H0 [] t.heap) (jA base)) 0 0 (jA base) := by
  refine Met.ofW (cc := cX14_takeId) (maxL := 3) (ret := none) (by decide) rfl ?_
  intro p e s m args below meth c s₁ Bd hml hv
  obtain ⟨rfl, hH0, hX, hG, hg_r0, hg_zm, hg_xb, hg_xe, hP0, hM0, hp0, hp1⟩ := hv
  have hK := hG.1
  have hx := Bd.exec
  have hb := Bd.bytes
  have hr := Bd.returns
  have hts := atoms_spec (ws := (jw yX14_takeId cX14_takeId 3 none)) Bd.pre
  have htw : ∀ w ∈ jWl, w.before _ s = true := fun w h => hts w (List.mem_cons_of_mem _ h)
  have hown : s.vm.findClass RX14 = some m.cls := findClass_of_methodNamed Bd.named
  have hlocks := Bd.notSynchronized
  obtain ⟨Q, hQ⟩ : ∃ Q, Q = MQ below (va_Qv (S := Unit) (fun u => True) (fun u t => jRt (dC, dI) B base G0 EX14_takeId H0 [] t.heap) (jA base)) ([.ref r0, .int a1] : List Value).toArray s 0 0 (jA base) := ⟨_, rfl⟩
  rw [← hQ]
  have hl := lv_entry ([.ref r0, .int a1]) (n := 3) (Nat.le_of_ble_eq_true rfl)
  rw [lg_entry_eq]
  generalize (lg_sl ([.ref r0, .int a1]) ++ List.replicate (3 - (lg_sl ([.ref r0, .int a1])).length) Slot.unset).toArray = ls at hl ⊢
  have hl : lv_has ls 3 [(0, .ref r0), (1, .int a1)] := hl
  generalize hR : (headSpec (jw yX14_takeId cX14_takeId 3 none) ({ frames := 0, cells := 0, slots := 0, locals := 0 })).room = R
  subst hH0
  have hh : jSt (dC, dI) B base G0 G0 EX14_takeId s.heap 0 0 [(r0, 16, 17, .ref zm), (r0, 16, 22, .ref xb), (r0, 16, 23, .ref xe)] [(zm, 117, 3100, ca 1, fs), (xb, 122, 3100, ca 1, fb), (xe, 123, 3100, ca 1, fe)] [] s.heap [] := jSt.start hX hP0 hM0 jIs.nil
  clear hX hP0
  have hk0 : (0 : Int32).toInt = 0 := by decide
  have hk1 : (1 : Int32).toInt = 1 := by decide
  have hk4 : (4 : Int32).toInt = 4 := by decide
  have hly_16_17 := htw (u_lay RX14 TX14 17) (jWc_wsX140 _ (u_in_lay (by decide)))
  have hly_16_22 := htw (u_lay RX14 TX14 22) (jWc_wsX140 _ (u_in_lay (by decide)))
  have hly_16_23 := htw (u_lay RX14 TX14 23) (jWc_wsX140 _ (u_in_lay (by decide)))
  have hly_16_25 := htw (u_lay RX14 TX14 25) (jWc_wsX140 _ (u_in_lay (by decide)))
  have hly_16_27 := htw (u_lay RX14 TX14 27) (jWc_wsX140 _ (u_in_lay (by decide)))
  have hly_16_36 := htw (u_lay RX14 TX14 36) (jWc_wsX140 _ (u_in_lay (by decide)))
  have hly_16_37 := htw (u_lay RX14 TX14 37) (jWc_wsX140 _ (u_in_lay (by decide)))
  have hly_16_38 := htw (u_lay RX14 TX14 38) (jWc_wsX140 _ (u_in_lay (by decide)))
  have hly_16_39 := htw (u_lay RX14 TX14 39) (jWc_wsX140 _ (u_in_lay (by decide)))
  have hly_16_40 := htw (u_lay RX14 TX14 40) (jWc_wsX140 _ (u_in_lay (by decide)))
  have hlk_374 := (htw (.fieldLink RX14 374 "ProofServerModel" "idNull" "Z") (jWr_50 _ (List.mem_of_getElem? (i := 10) rfl)))
  have hlk_37 := (htw (.fieldLink RX14 37 "ProofServerModel" "sort" "[I") (jWr_11 _ (List.mem_of_getElem? (i := 4) rfl)))
  have hlk_377 := (htw (.fieldLink RX14 377 "ProofServerModel" "idString" "Z") (jWr_53 _ (List.mem_of_getElem? (i := 19) rfl)))
  have hlk_62 := (htw (.fieldLink RX14 62 "ProofServerModel" "ints" "[I") (jWr_11 _ (List.mem_of_getElem? (i := 13) rfl)))
  have hlk_380 := (htw (.fieldLink RX14 380 "ProofServerModel" "idInt" "I") (jWr_53 _ (List.mem_of_getElem? (i := 21) rfl)))
  have hlk_55 := (htw (.fieldLink RX14 55 "ProofServerModel" "to" "[I") (jWr_11 _ (List.mem_of_getElem? (i := 10) rfl)))
  have hlk_52 := (htw (.fieldLink RX14 52 "ProofServerModel" "from" "[I") (jWr_11 _ (List.mem_of_getElem? (i := 9) rfl)))
  have hlk_383 := (htw (.fieldLink RX14 383 "ProofServerModel" "idLength" "I") (jWr_53 _ (List.mem_of_getElem? (i := 20) rfl)))
  have hlk_68 := (htw (.fieldLink RX14 68 "ProofServerModel" "idUnits" "[I") (jWr_11 _ (List.mem_of_getElem? (i := 15) rfl)))
  have hlk_65 := (htw (.fieldLink RX14 65 "ProofServerModel" "pool" "[I") (jWr_11 _ (List.mem_of_getElem? (i := 14) rfl)))
  have hrg_a1 := jb_rng a1
  refine lv_aload_n hx hb dX14_takeId_0 rfl (lv_at hl 0 rfl) ?_
  refine lv_iload_n hx hb dX14_takeId_1 rfl (lv_at hl 1 rfl) ?_
  have C10 : ∀ (w0_1 : Int32) (H_1 : Heap) (locs_1 : List Loc), jSt (dC, dI) B base G0 G0 EX14_takeId s.heap 0 0 [(r0, 16, 17, .ref zm), (r0, 16, 22, .ref xb), (r0, 16, 23, .ref xe)] [(zm, 117, 3100, ca 1, fs), (xb, 122, 3100, ca 1, fb), (xe, 123, 3100, ca 1, fe)] [] H_1 locs_1 → (w0_1 = 0 ∨ w0_1 = 1) → (0 ≤ w0_1.toInt ∧ w0_1.toInt ≤ 1) → ∀ ls : Array Slot, lv_has ls 3 [(0, .ref r0), (1, .int a1)] → W p l e R s m ([.ref r0, .int a1] : List Value).toArray below meth c H_1 locs_1 0 0 Q (F0 m 10 ls [.int w0_1, .ref r0]) := by
    intro w0_1 H_1 locs_1 hh_1 hb_w0_1 hi_1 ls hl
    obtain ⟨hi_1_0, hi_1_1⟩ := hi_1
    have hb_w0_1' := jb_01 hb_w0_1
    refine j7_put hx hb hown hK hh_1 hB hAp hB16 (C := RX14) (T := TX14) (N := 74) rfl (by decide) hg_r0 (i := 40) (by decide) hly_16_40 rfl hlk_374 rfl (ty := .boolean) (v := .int w0_1) (by decide +kernel) (jb_nz (hb_w0_1)) (jb_fz (hb_w0_1)) (⟨_, rfl, (hb_w0_1)⟩) rfl (L1 := [(r0, 16, 17, .ref zm), (r0, 16, 22, .ref xb), (r0, 16, 23, .ref xe)]) [0, 1, 2] rfl rfl rfl dX14_takeId_10 (fun H_2 locs_2 hh_2 => ?_)
    clear hh_1
    refine lv_iload_n hx hb dX14_takeId_13 rfl (lv_at hl 1 rfl) ?_
    refine lv_if_ge (tgt := 18) hx hb dX14_takeId_14 (by decide) (fun c_3 => ?_) (fun c_3 => ?_)
    · skip
      have c_3' : a1.toInt ≥ 0 := jb_ge (rfl) ((by decide)) c_3
      refine lv_aload_n hx hb dX14_takeId_18 rfl (lv_at hl 0 rfl) ?_
      refine lv_aload_n hx hb dX14_takeId_19 rfl (lv_at hl 0 rfl) ?_
      refine j7_read hx hb hown hK (C := RX14) (T := TX14) (N := 74) rfl hly_16_17 hlk_37 (hh_2.at 1 rfl) dX14_takeId_20 ?_
      refine lv_iload_n hx hb dX14_takeId_23 rfl (lv_at hl 1 rfl) ?_
      refine j7_ialdM hx hb hK hh_2 hB117 1 rfl (by decide) hg_zm (x := a1.toInt) (rfl) (by omega) (j := 0) rfl dX14_takeId_24 (fun z_4 ez_4 (hz_4 : True) => ?_)
      have hqz_4 : z_4.toInt = jSo fs (a1.toInt) := by unfold jSo; rw [ez_4]
      refine lv_iconst (v := 4) hx hb dX14_takeId_25 (by decide) ?_
      have C34 : ∀ (w0_5 : Int32) (H_5 : Heap) (locs_5 : List Loc), jSt (dC, dI) B base G0 G0 EX14_takeId s.heap 0 0 [(r0, 16, 40, .int w0_1), (r0, 16, 17, .ref zm), (r0, 16, 22, .ref xb), (r0, 16, 23, .ref xe)] [(zm, 117, 3100, ca 1, fs), (xb, 122, 3100, ca 1, fb), (xe, 123, 3100, ca 1, fe)] [] H_5 locs_5 → (w0_5 = 0 ∨ w0_5 = 1) → (0 ≤ w0_5.toInt ∧ w0_5.toInt ≤ 1 ∧ 0 ≤ a1.toInt ∧ (w0_5.toInt = 1 → jSo fs a1.toInt = 4)) → ∀ ls : Array Slot, lv_has ls 3 [(0, .ref r0), (1, .int a1)] → W p l e R s m ([.ref r0, .int a1] : List Value).toArray below meth c H_5 locs_5 0 0 Q (F0 m 34 ls [.int w0_5, .ref r0]) := by
        intro w0_5 H_5 locs_5 hh_5 hb_w0_5 hi_5 ls hl
        obtain ⟨hi_5_0, hi_5_1, hi_5_2, hi_5_3⟩ := hi_5
        have hb_w0_5' := jb_01 hb_w0_5
        refine j7_put hx hb hown hK hh_5 hB hAp hB16 (C := RX14) (T := TX14) (N := 74) rfl (by decide) hg_r0 (i := 36) (by decide) hly_16_36 rfl hlk_377 rfl (ty := .boolean) (v := .int w0_5) (by decide +kernel) (jb_nz (hb_w0_5)) (jb_fz (hb_w0_5)) (⟨_, rfl, (hb_w0_5)⟩) rfl (L1 := [(r0, 16, 40, .int w0_1), (r0, 16, 17, .ref zm), (r0, 16, 22, .ref xb), (r0, 16, 23, .ref xe)]) [0, 1, 2, 3] rfl rfl rfl dX14_takeId_34 (fun H_6 locs_6 hh_6 => ?_)
        clear hh_5
        refine lv_aload_n hx hb dX14_takeId_37 rfl (lv_at hl 0 rfl) ?_
        refine lv_aload_n hx hb dX14_takeId_38 rfl (lv_at hl 0 rfl) ?_
        refine j7_read hx hb hown hK (C := RX14) (T := TX14) (N := 74) rfl hly_16_36 hlk_377 (hh_6.at 0 rfl) dX14_takeId_39 ?_
        refine lv_if_eq (tgt := 49) hx hb dX14_takeId_42 (by decide) (fun c_7 => ?_) (fun c_7 => ?_)
        · skip
          have c_7' : w0_5.toInt = 0 := jb_eq (rfl) ((by decide)) c_7
          refine lv_aload_n hx hb dX14_takeId_49 rfl (lv_at hl 0 rfl) ?_
          obtain ⟨v_8, hv_8, hh_9⟩ := hh_6.pin (C := RX14) (T := TX14) (N := 74) hB16 rfl (by decide) hg_r0 (i := 25) (by decide) rfl
          clear hh_6
          obtain ⟨ints_10, rfl, hg_ints_10⟩ := hv_8
          refine j7_read hx hb hown hK (C := RX14) (T := TX14) (N := 74) rfl hly_16_25 hlk_62 (hh_9.at 0 rfl) dX14_takeId_50 ?_
          refine lv_iload_n hx hb dX14_takeId_53 rfl (lv_at hl 1 rfl) ?_
          refine j7_iald hx hb hK hh_9 hB125 1 rfl (by decide) hg_ints_10 (x := a1.toInt) (rfl) (by omega) dX14_takeId_54 (fun z_11 (hz_11 : True) => ?_)
          refine j7_put hx hb hown hK hh_9 hB hAp hB16 (C := RX14) (T := TX14) (N := 74) rfl (by decide) hg_r0 (i := 37) (by decide) hly_16_37 rfl hlk_380 rfl (ty := .int) (v := .int z_11) (by decide +kernel) rfl rfl (⟨_, rfl⟩) rfl (L1 := [(r0, 16, 25, .ref ints_10), (r0, 16, 36, .int w0_5), (r0, 16, 40, .int w0_1), (r0, 16, 17, .ref zm), (r0, 16, 22, .ref xb), (r0, 16, 23, .ref xe)]) [0, 1, 2, 3, 4, 5] rfl rfl rfl dX14_takeId_55 (fun H_12 locs_12 hh_12 => ?_)
          clear hh_9
          refine lv_aload_n hx hb dX14_takeId_58 rfl (lv_at hl 0 rfl) ?_
          refine lv_aload_n hx hb dX14_takeId_59 rfl (lv_at hl 0 rfl) ?_
          refine j7_read hx hb hown hK (C := RX14) (T := TX14) (N := 74) rfl hly_16_36 hlk_377 (hh_12.at 2 rfl) dX14_takeId_60 ?_
          refine lv_if_eq (tgt := 82) hx hb dX14_takeId_63 (by decide) (fun c_13 => ?_) (fun c_13 => ?_)
          · skip
            have c_13' : w0_5.toInt = 0 := jb_eq (rfl) ((by decide)) c_13
            refine lv_iconst (v := 0) hx hb dX14_takeId_82 (by decide) ?_
            refine j7_put hx hb hown hK hh_12 hB hAp hB16 (C := RX14) (T := TX14) (N := 74) rfl (by decide) hg_r0 (i := 39) (by decide) hly_16_39 rfl hlk_383 rfl (ty := .int) (v := .int 0) (by decide +kernel) rfl rfl (⟨_, rfl, by omega, by omega⟩) rfl (L1 := [(r0, 16, 37, .int z_11), (r0, 16, 25, .ref ints_10), (r0, 16, 36, .int w0_5), (r0, 16, 40, .int w0_1), (r0, 16, 17, .ref zm), (r0, 16, 22, .ref xb), (r0, 16, 23, .ref xe)]) [0, 1, 2, 3, 4, 5, 6] rfl rfl rfl dX14_takeId_83 (fun H_14 locs_14 hh_14 => ?_)
            clear hh_12
            refine lv_iconst (v := 0) hx hb dX14_takeId_86 (by decide) ?_
            refine lv_istore_n (lv' := [(2, .int 0), (0, .ref r0), (1, .int a1)]) hx hb dX14_takeId_87 rfl hl (by decide) rfl (fun ls hl => ?_)
            have L88 : ∀ (N : Nat) (v2_15 : Int32) (H_15 : Heap) (locs_15 : List Loc), jSt (dC, dI) B base G0 G0 EX14_takeId s.heap 0 0 [(r0, 16, 39, .int 0), (r0, 16, 37, .int z_11), (r0, 16, 25, .ref ints_10), (r0, 16, 36, .int w0_5), (r0, 16, 40, .int w0_1), (r0, 16, 17, .ref zm), (r0, 16, 22, .ref xb), (r0, 16, 23, .ref xe)] [(zm, 117, 3100, ca 1, fs), (xb, 122, 3100, ca 1, fb), (xe, 123, 3100, ca 1, fe)] [] H_15 locs_15 → (0 ≤ v2_15.toInt ∧ v2_15.toInt ≤ 20) → (20 - v2_15.toInt : Int) < N → ∀ ls : Array Slot, lv_has ls 3 [(0, .ref r0), (1, .int a1), (2, .int v2_15)] → W p l e R s m ([.ref r0, .int a1] : List Value).toArray below meth c H_15 locs_15 0 0 Q (F0 m 88 ls []) := by
              intro N
              induction N with
              | zero => intro v2_15 H_15 locs_15 hh_15  hi_15 hm; exact absurd hm (by omega)
              | succ N L88 =>
                intro v2_15 H_15 locs_15 hh_15  hi_15 hm_15 ls hl
                obtain ⟨hi_15_0, hi_15_1⟩ := hi_15
                refine lv_iload_n hx hb dX14_takeId_88 rfl (lv_at hl 2 rfl) ?_
                refine lv_aload_n hx hb dX14_takeId_89 rfl (lv_at hl 0 rfl) ?_
                refine j7_read hx hb hown hK (C := RX14) (T := TX14) (N := 74) rfl hly_16_39 hlk_383 (hh_15.at 0 rfl) dX14_takeId_90 ?_
                refine lv_icmp_ge (tgt := 121) hx hb dX14_takeId_93 (by decide) (fun c_16 => ?_) (fun c_16 => ?_)
                · skip
                  have c_16' : v2_15.toInt ≥ 0 := jb_ge (rfl) ((by decide)) c_16
                  rw [hQ]
                  exact W.vret hx hb hr (fun t ht hW => ⟨⟨(), rfl, trivial, hh_15.rt (M1 := []) [] rfl ht⟩, by rw [ht]; try exact hh_15.1.1, fun q h9 hq => by rw [ht]; try exact hh_15.1.2.1 q h9 hq⟩) hh_15.1.2.2 dX14_takeId_121
                · skip
                  have c_16' : v2_15.toInt < 0 := jb_ge_n (rfl) ((by decide)) c_16
                  refine lv_aload_n hx hb dX14_takeId_96 rfl (lv_at hl 0 rfl) ?_
                  obtain ⟨v_17, hv_17, hh_18⟩ := hh_15.pin (C := RX14) (T := TX14) (N := 74) hB16 rfl (by decide) hg_r0 (i := 38) (by decide) rfl
                  clear hh_15
                  obtain ⟨idUnits_19, rfl, hg_idUnits_19⟩ := hv_17
                  refine j7_read hx hb hown hK (C := RX14) (T := TX14) (N := 74) rfl hly_16_38 hlk_68 (hh_18.at 0 rfl) dX14_takeId_97 ?_
                  refine lv_iload_n hx hb dX14_takeId_100 rfl (lv_at hl 2 rfl) ?_
                  refine lv_aload_n hx hb dX14_takeId_101 rfl (lv_at hl 0 rfl) ?_
                  obtain ⟨v_20, hv_20, hh_21⟩ := hh_18.pin (C := RX14) (T := TX14) (N := 74) hB16 rfl (by decide) hg_r0 (i := 27) (by decide) rfl
                  clear hh_18
                  obtain ⟨pool_22, rfl, hg_pool_22⟩ := hv_20
                  refine j7_read hx hb hown hK (C := RX14) (T := TX14) (N := 74) rfl hly_16_27 hlk_65 (hh_21.at 0 rfl) dX14_takeId_102 ?_
                  refine lv_aload_n hx hb dX14_takeId_105 rfl (lv_at hl 0 rfl) ?_
                  refine j7_read hx hb hown hK (C := RX14) (T := TX14) (N := 74) rfl hly_16_22 hlk_52 (hh_21.at 8 rfl) dX14_takeId_106 ?_
                  refine lv_iload_n hx hb dX14_takeId_109 rfl (lv_at hl 1 rfl) ?_
                  refine j7_ialdM hx hb hK hh_21 hB122 1 rfl (by decide) hg_xb (x := a1.toInt) (rfl) (by omega) (j := 1) rfl dX14_takeId_110 (fun z_23 ez_23 (hz_23 : 0 ≤ z_23.toInt ∧ z_23.toInt ≤ 3100) => ?_)
                  have hqz_23 : z_23.toInt = jSo fb (a1.toInt) := by unfold jSo; rw [ez_23]
                  refine lv_iload_n hx hb dX14_takeId_111 rfl (lv_at hl 2 rfl) ?_
                  refine lv_iadd hx hb dX14_takeId_112 ?_
                  refine lv_topi (fun z_24 ez_24 => ?_)
                  have hz_24 : z_24.toInt = z_23.toInt + v2_15.toInt := by rw [ez_24]; exact jb_iadd2 (rfl) (rfl) (by omega)
                  refine j7_iald hx hb hK hh_21 hB127 1 rfl (by decide) hg_pool_22 (x := z_24.toInt) (rfl) (by omega) dX14_takeId_113 (fun z_25 (hz_25 : True) => ?_)
                  refine j7_iast hx hb hK hh_21 hB hB101 1 rfl (by decide) (by decide) rfl rfl rfl hg_idUnits_19 (x := v2_15.toInt) (rfl) (by omega) (trivial) dX14_takeId_114 (fun H_26 locs_26 hh_26 => ?_)
                  clear hh_21
                  obtain ⟨z_27, ez_27⟩ : ∃ y : Int32, y = v2_15 + 1 := ⟨_, rfl⟩
                  refine lv_iinc (v := z_27) (lv' := [(2, .int z_27), (0, .ref r0), (1, .int a1)]) hx hb dX14_takeId_115 hl (k := 2) rfl (by rw [ez_27]; rfl) (by decide) rfl (fun ls hl => ?_)
                  have hz_27 : z_27.toInt = v2_15.toInt + 1 := by rw [ez_27]; exact jb_iadd2 (rfl) (by decide) (by omega)
                  refine lv_goto (tgt := 88) hx hb dX14_takeId_118 (by decide) ?_
                  exact L88 z_27 _ _ (hh_26.sub (L1 := [(r0, 16, 39, .int 0), (r0, 16, 37, .int z_11), (r0, 16, 25, .ref ints_10), (r0, 16, 36, .int w0_5), (r0, 16, 40, .int w0_1), (r0, 16, 17, .ref zm), (r0, 16, 22, .ref xb), (r0, 16, 23, .ref xe)]) [2, 3, 4, 5, 6, 7, 8, 9] rfl (M1 := [(zm, 117, 3100, ca 1, fs), (xb, 122, 3100, ca 1, fb), (xe, 123, 3100, ca 1, fe)]) [0, 1, 2] rfl (I1 := []) [] rfl) (by first | omega | (refine ⟨?_, ?_⟩ <;> (first | omega | rfl | assumption | decide | exact Or.inl rfl | exact Or.inr rfl | (simp only; omega)))) (by omega) _ (lv_sub hl [1, 2, 0] rfl)
            exact L88 (20 - (0 : Int32).toInt : Int).toNat.succ 0 _ _ hh_14 (by first | omega | (refine ⟨?_, ?_⟩ <;> (first | omega | rfl | assumption | decide | exact Or.inl rfl | exact Or.inr rfl | (simp only; omega)))) (by omega) _ (lv_sub hl [1, 2, 0] rfl)
          · skip
            have c_13' : w0_5.toInt ≠ 0 := jb_eq_n (rfl) ((by decide)) c_13
            exact (by omega : False).elim
        · skip
          have c_7' : w0_5.toInt ≠ 0 := jb_eq_n (rfl) ((by decide)) c_7
          refine lv_iconst (v := 0) hx hb dX14_takeId_45 (by decide) ?_
          refine lv_goto (tgt := 55) hx hb dX14_takeId_46 (by decide) ?_
          refine j7_put hx hb hown hK hh_6 hB hAp hB16 (C := RX14) (T := TX14) (N := 74) rfl (by decide) hg_r0 (i := 37) (by decide) hly_16_37 rfl hlk_380 rfl (ty := .int) (v := .int 0) (by decide +kernel) rfl rfl (⟨_, rfl⟩) rfl (L1 := [(r0, 16, 36, .int w0_5), (r0, 16, 40, .int w0_1), (r0, 16, 17, .ref zm), (r0, 16, 22, .ref xb), (r0, 16, 23, .ref xe)]) [0, 1, 2, 3, 4] rfl rfl rfl dX14_takeId_55 (fun H_28 locs_28 hh_28 => ?_)
          clear hh_6
          refine lv_aload_n hx hb dX14_takeId_58 rfl (lv_at hl 0 rfl) ?_
          refine lv_aload_n hx hb dX14_takeId_59 rfl (lv_at hl 0 rfl) ?_
          refine j7_read hx hb hown hK (C := RX14) (T := TX14) (N := 74) rfl hly_16_36 hlk_377 (hh_28.at 1 rfl) dX14_takeId_60 ?_
          refine lv_if_eq (tgt := 82) hx hb dX14_takeId_63 (by decide) (fun c_29 => ?_) (fun c_29 => ?_)
          · skip
            have c_29' : w0_5.toInt = 0 := jb_eq (rfl) ((by decide)) c_29
            exact (by omega : False).elim
          · skip
            have c_29' : w0_5.toInt ≠ 0 := jb_eq_n (rfl) ((by decide)) c_29
            refine lv_aload_n hx hb dX14_takeId_66 rfl (lv_at hl 0 rfl) ?_
            refine j7_read hx hb hown hK (C := RX14) (T := TX14) (N := 74) rfl hly_16_23 hlk_55 (hh_28.at 5 rfl) dX14_takeId_67 ?_
            refine lv_iload_n hx hb dX14_takeId_70 rfl (lv_at hl 1 rfl) ?_
            refine j7_ialdM hx hb hK hh_28 hB123 1 rfl (by decide) hg_xe (x := a1.toInt) (rfl) (by omega) (j := 2) rfl dX14_takeId_71 (fun z_30 ez_30 (hz_30 : 0 ≤ z_30.toInt ∧ z_30.toInt ≤ 3100) => ?_)
            have hqz_30 : z_30.toInt = jSo fe (a1.toInt) := by unfold jSo; rw [ez_30]
            refine lv_aload_n hx hb dX14_takeId_72 rfl (lv_at hl 0 rfl) ?_
            refine j7_read hx hb hown hK (C := RX14) (T := TX14) (N := 74) rfl hly_16_22 hlk_52 (hh_28.at 4 rfl) dX14_takeId_73 ?_
            refine lv_iload_n hx hb dX14_takeId_76 rfl (lv_at hl 1 rfl) ?_
            refine j7_ialdM hx hb hK hh_28 hB122 1 rfl (by decide) hg_xb (x := a1.toInt) (rfl) (by omega) (j := 1) rfl dX14_takeId_77 (fun z_31 ez_31 (hz_31 : 0 ≤ z_31.toInt ∧ z_31.toInt ≤ 3100) => ?_)
            have hqz_31 : z_31.toInt = jSo fb (a1.toInt) := by unfold jSo; rw [ez_31]
            refine lv_isub hx hb dX14_takeId_78 ?_
            refine lv_topi (fun z_32 ez_32 => ?_)
            have hz_32 : z_32.toInt = z_30.toInt - z_31.toInt := by rw [ez_32]; exact jb_isub2 (rfl) (rfl) (by omega)
            refine lv_goto (tgt := 83) hx hb dX14_takeId_79 (by decide) ?_
            refine j7_put hx hb hown hK hh_28 hB hAp hB16 (C := RX14) (T := TX14) (N := 74) rfl (by decide) hg_r0 (i := 39) (by decide) hly_16_39 rfl hlk_383 rfl (ty := .int) (v := .int z_32) (by decide +kernel) rfl rfl (⟨_, rfl, by omega, by omega⟩) rfl (L1 := [(r0, 16, 37, .int 0), (r0, 16, 36, .int w0_5), (r0, 16, 40, .int w0_1), (r0, 16, 17, .ref zm), (r0, 16, 22, .ref xb), (r0, 16, 23, .ref xe)]) [0, 1, 2, 3, 4, 5] rfl rfl rfl dX14_takeId_83 (fun H_33 locs_33 hh_33 => ?_)
            clear hh_28
            refine lv_iconst (v := 0) hx hb dX14_takeId_86 (by decide) ?_
            refine lv_istore_n (lv' := [(2, .int 0), (0, .ref r0), (1, .int a1)]) hx hb dX14_takeId_87 rfl hl (by decide) rfl (fun ls hl => ?_)
            have L88 : ∀ (N : Nat) (v2_34 : Int32) (H_34 : Heap) (locs_34 : List Loc), jSt (dC, dI) B base G0 G0 EX14_takeId s.heap 0 0 [(r0, 16, 39, .int z_32), (r0, 16, 37, .int 0), (r0, 16, 36, .int w0_5), (r0, 16, 40, .int w0_1), (r0, 16, 17, .ref zm), (r0, 16, 22, .ref xb), (r0, 16, 23, .ref xe)] [(zm, 117, 3100, ca 1, fs), (xb, 122, 3100, ca 1, fb), (xe, 123, 3100, ca 1, fe)] [] H_34 locs_34 → (0 ≤ v2_34.toInt ∧ v2_34.toInt ≤ 20) → (20 - v2_34.toInt : Int) < N → ∀ ls : Array Slot, lv_has ls 3 [(0, .ref r0), (1, .int a1), (2, .int v2_34)] → W p l e R s m ([.ref r0, .int a1] : List Value).toArray below meth c H_34 locs_34 0 0 Q (F0 m 88 ls []) := by
              intro N
              induction N with
              | zero => intro v2_34 H_34 locs_34 hh_34  hi_34 hm; exact absurd hm (by omega)
              | succ N L88 =>
                intro v2_34 H_34 locs_34 hh_34  hi_34 hm_34 ls hl
                obtain ⟨hi_34_0, hi_34_1⟩ := hi_34
                refine lv_iload_n hx hb dX14_takeId_88 rfl (lv_at hl 2 rfl) ?_
                refine lv_aload_n hx hb dX14_takeId_89 rfl (lv_at hl 0 rfl) ?_
                refine j7_read hx hb hown hK (C := RX14) (T := TX14) (N := 74) rfl hly_16_39 hlk_383 (hh_34.at 0 rfl) dX14_takeId_90 ?_
                refine lv_icmp_ge (tgt := 121) hx hb dX14_takeId_93 (by decide) (fun c_35 => ?_) (fun c_35 => ?_)
                · skip
                  have c_35' : v2_34.toInt ≥ z_32.toInt := jb_ge (rfl) (rfl) c_35
                  rw [hQ]
                  exact W.vret hx hb hr (fun t ht hW => ⟨⟨(), rfl, trivial, hh_34.rt (M1 := []) [] rfl ht⟩, by rw [ht]; try exact hh_34.1.1, fun q h9 hq => by rw [ht]; try exact hh_34.1.2.1 q h9 hq⟩) hh_34.1.2.2 dX14_takeId_121
                · skip
                  have c_35' : v2_34.toInt < z_32.toInt := jb_ge_n (rfl) (rfl) c_35
                  refine lv_aload_n hx hb dX14_takeId_96 rfl (lv_at hl 0 rfl) ?_
                  obtain ⟨v_36, hv_36, hh_37⟩ := hh_34.pin (C := RX14) (T := TX14) (N := 74) hB16 rfl (by decide) hg_r0 (i := 38) (by decide) rfl
                  clear hh_34
                  obtain ⟨idUnits_38, rfl, hg_idUnits_38⟩ := hv_36
                  refine j7_read hx hb hown hK (C := RX14) (T := TX14) (N := 74) rfl hly_16_38 hlk_68 (hh_37.at 0 rfl) dX14_takeId_97 ?_
                  refine lv_iload_n hx hb dX14_takeId_100 rfl (lv_at hl 2 rfl) ?_
                  refine lv_aload_n hx hb dX14_takeId_101 rfl (lv_at hl 0 rfl) ?_
                  obtain ⟨v_39, hv_39, hh_40⟩ := hh_37.pin (C := RX14) (T := TX14) (N := 74) hB16 rfl (by decide) hg_r0 (i := 27) (by decide) rfl
                  clear hh_37
                  obtain ⟨pool_41, rfl, hg_pool_41⟩ := hv_39
                  refine j7_read hx hb hown hK (C := RX14) (T := TX14) (N := 74) rfl hly_16_27 hlk_65 (hh_40.at 0 rfl) dX14_takeId_102 ?_
                  refine lv_aload_n hx hb dX14_takeId_105 rfl (lv_at hl 0 rfl) ?_
                  refine j7_read hx hb hown hK (C := RX14) (T := TX14) (N := 74) rfl hly_16_22 hlk_52 (hh_40.at 7 rfl) dX14_takeId_106 ?_
                  refine lv_iload_n hx hb dX14_takeId_109 rfl (lv_at hl 1 rfl) ?_
                  refine j7_ialdM hx hb hK hh_40 hB122 1 rfl (by decide) hg_xb (x := a1.toInt) (rfl) (by omega) (j := 1) rfl dX14_takeId_110 (fun z_42 ez_42 (hz_42 : 0 ≤ z_42.toInt ∧ z_42.toInt ≤ 3100) => ?_)
                  have hqz_42 : z_42.toInt = jSo fb (a1.toInt) := by unfold jSo; rw [ez_42]
                  refine lv_iload_n hx hb dX14_takeId_111 rfl (lv_at hl 2 rfl) ?_
                  refine lv_iadd hx hb dX14_takeId_112 ?_
                  refine lv_topi (fun z_43 ez_43 => ?_)
                  have hz_43 : z_43.toInt = z_42.toInt + v2_34.toInt := by rw [ez_43]; exact jb_iadd2 (rfl) (rfl) (by omega)
                  refine j7_iald hx hb hK hh_40 hB127 1 rfl (by decide) hg_pool_41 (x := z_43.toInt) (rfl) (by omega) dX14_takeId_113 (fun z_44 (hz_44 : True) => ?_)
                  refine j7_iast hx hb hK hh_40 hB hB101 1 rfl (by decide) (by decide) rfl rfl rfl hg_idUnits_38 (x := v2_34.toInt) (rfl) (by omega) (trivial) dX14_takeId_114 (fun H_45 locs_45 hh_45 => ?_)
                  clear hh_40
                  obtain ⟨z_46, ez_46⟩ : ∃ y : Int32, y = v2_34 + 1 := ⟨_, rfl⟩
                  refine lv_iinc (v := z_46) (lv' := [(2, .int z_46), (0, .ref r0), (1, .int a1)]) hx hb dX14_takeId_115 hl (k := 2) rfl (by rw [ez_46]; rfl) (by decide) rfl (fun ls hl => ?_)
                  have hz_46 : z_46.toInt = v2_34.toInt + 1 := by rw [ez_46]; exact jb_iadd2 (rfl) (by decide) (by omega)
                  refine lv_goto (tgt := 88) hx hb dX14_takeId_118 (by decide) ?_
                  exact L88 z_46 _ _ (hh_45.sub (L1 := [(r0, 16, 39, .int z_32), (r0, 16, 37, .int 0), (r0, 16, 36, .int w0_5), (r0, 16, 40, .int w0_1), (r0, 16, 17, .ref zm), (r0, 16, 22, .ref xb), (r0, 16, 23, .ref xe)]) [2, 3, 4, 5, 6, 7, 8] rfl (M1 := [(zm, 117, 3100, ca 1, fs), (xb, 122, 3100, ca 1, fb), (xe, 123, 3100, ca 1, fe)]) [0, 1, 2] rfl (I1 := []) [] rfl) (by first | omega | (refine ⟨?_, ?_⟩ <;> (first | omega | rfl | assumption | decide | exact Or.inl rfl | exact Or.inr rfl | (simp only; omega)))) (by omega) _ (lv_sub hl [1, 2, 0] rfl)
            exact L88 (20 - (0 : Int32).toInt : Int).toNat.succ 0 _ _ hh_33 (by first | omega | (refine ⟨?_, ?_⟩ <;> (first | omega | rfl | assumption | decide | exact Or.inl rfl | exact Or.inr rfl | (simp only; omega)))) (by omega) _ (lv_sub hl [1, 2, 0] rfl)
      refine lv_icmp_ne (tgt := 33) hx hb dX14_takeId_26 (by decide) (fun c_47 => ?_) (fun c_47 => ?_)
      · skip
        have c_47' : z_4.toInt ≠ 4 := jb_ne (rfl) ((by decide)) c_47
        refine lv_iconst (v := 0) hx hb dX14_takeId_33 (by decide) ?_
        exact C34 0 _ _ hh_2 (Or.inl rfl) (by first | omega | (refine ⟨?_, ?_, ?_, ?_⟩ <;> (first | omega | rfl | assumption | decide | exact Or.inl rfl | exact Or.inr rfl | (simp only; omega)))) _ (lv_sub hl [0, 1] rfl)
      · skip
        have c_47' : z_4.toInt = 4 := jb_ne_n (rfl) ((by decide)) c_47
        refine lv_iconst (v := 1) hx hb dX14_takeId_29 (by decide) ?_
        refine lv_goto (tgt := 34) hx hb dX14_takeId_30 (by decide) ?_
        exact C34 1 _ _ hh_2 (Or.inr rfl) (by first | omega | (refine ⟨?_, ?_, ?_, ?_⟩ <;> (first | omega | rfl | assumption | decide | exact Or.inl rfl | exact Or.inr rfl | (simp only; omega)))) _ (lv_sub hl [0, 1] rfl)
    · skip
      have c_3' : a1.toInt < 0 := jb_ge_n (rfl) ((by decide)) c_3
      rw [hQ]
      exact W.vret hx hb hr (fun t ht hW => ⟨⟨(), rfl, trivial, hh_2.rt (M1 := []) [] rfl ht⟩, by rw [ht]; try exact hh_2.1.1, fun q h9 hq => by rw [ht]; try exact hh_2.1.2.1 q h9 hq⟩) hh_2.1.2.2 dX14_takeId_17
  refine lv_if_ge (tgt := 9) hx hb dX14_takeId_2 (by decide) (fun c_48 => ?_) (fun c_48 => ?_)
  · skip
    have c_48' : a1.toInt ≥ 0 := jb_ge (rfl) ((by decide)) c_48
    refine lv_iconst (v := 0) hx hb dX14_takeId_9 (by decide) ?_
    exact C10 0 _ _ hh (Or.inl rfl) (by first | omega | (refine ⟨?_, ?_⟩ <;> (first | omega | rfl | assumption | decide | exact Or.inl rfl | exact Or.inr rfl | (simp only; omega)))) _ (lv_sub hl [0, 1] rfl)
  · skip
    have c_48' : a1.toInt < 0 := jb_ge_n (rfl) ((by decide)) c_48
    refine lv_iconst (v := 1) hx hb dX14_takeId_5 (by decide) ?_
    refine lv_goto (tgt := 10) hx hb dX14_takeId_6 (by decide) ?_
    exact C10 1 _ _ hh (Or.inr rfl) (by first | omega | (refine ⟨?_, ?_⟩ <;> (first | omega | rfl | assumption | decide | exact Or.inl rfl | exact Or.inr rfl | (simp only; omega)))) _ (lv_sub hl [0, 1] rfl)
end
section
def EX14_isStringK : List (Nat × Nat) := []
def EX14_isWholeK : List (Nat × Nat) := []
def EX14_isIdK : List (Nat × Nat) := []
set_option maxHeartbeats 4000000 in
set_option maxRecDepth 20000 in
theorem uX14_isStringK (l : Launch) (dC : Nat → ClassId) (dI : Nat → Nat → Nat) (ca : Nat → ClassId) (base : Nat) (B : jF) (hB : jBok B) (hAp : jAp (dC, dI)) (hB16 : ∀ n G a H, B 16 n G a H ↔ jOb (dC, dI) 16 74 (F16 n G) a H) (hB117 : ∀ n G a H, B 117 n G a H ↔ jAr (dC, dI) (ca 1) (fun j z => True) n a H) (G0 : jT) (H0 : Heap) (r0 : Nat) (a1 : Int32) (zm : Nat) (fs : Nat → Int32) : Met l yX14_isString (jw yX14_isString cX14_isString 2 (some .boolean)) ({ frames := 0, cells := 0, slots := 0, locals := 0 }) (va_Pc [.ref r0, .int a1] (fun U => U.heap = H0 ∧ jX B base G0 [] H0 ∧ jG dC dI ca base U ∧ G0 r0 = some (16, 0) ∧ G0 zm = some (117, 3100) ∧ jP (dC, dI) G0 H0 [(r0, 16, 17, .ref zm)] ∧ jMc (dC, dI) G0 H0 [(zm, 117, 3100, ca 1, fs)] ∧ a1.toInt ≤ 3099)) (va_Qi (S := Unit) (fun r u => (r = 0 ∨ r = 1) ∧ (0 ≤ r.toInt ∧ r.toInt ≤ 1 ∧ (r.toInt = 1 → 0 ≤ a1.toInt ∧ jSo fs a1.toInt = 4))) (fun u t => jRt (dC, dI) B base G0 EX14_isStringK H0 [] t.heap) (jA base)) 0 0 (jA base) := by
  refine Met.ofW (cc := cX14_isString) (maxL := 2) (ret := (some .boolean)) (by decide) rfl ?_
  intro p e s m args below meth c s₁ Bd hml hv
  obtain ⟨rfl, hH0, hX, hG, hg_r0, hg_zm, hP0, hM0, hp0⟩ := hv
  have hK := hG.1
  have hx := Bd.exec
  have hb := Bd.bytes
  have hr := Bd.returns
  have hts := atoms_spec (ws := (jw yX14_isString cX14_isString 2 (some .boolean))) Bd.pre
  have htw : ∀ w ∈ jWl, w.before _ s = true := fun w h => hts w (List.mem_cons_of_mem _ h)
  have hown : s.vm.findClass RX14 = some m.cls := findClass_of_methodNamed Bd.named
  have hlocks := Bd.notSynchronized
  obtain ⟨Q, hQ⟩ : ∃ Q, Q = MQ below (va_Qi (S := Unit) (fun r u => (r = 0 ∨ r = 1) ∧ (0 ≤ r.toInt ∧ r.toInt ≤ 1 ∧ (r.toInt = 1 → 0 ≤ a1.toInt ∧ jSo fs a1.toInt = 4))) (fun u t => jRt (dC, dI) B base G0 EX14_isStringK H0 [] t.heap) (jA base)) ([.ref r0, .int a1] : List Value).toArray s 0 0 (jA base) := ⟨_, rfl⟩
  rw [← hQ]
  have hl := lv_entry ([.ref r0, .int a1]) (n := 2) (Nat.le_of_ble_eq_true rfl)
  rw [lg_entry_eq]
  generalize (lg_sl ([.ref r0, .int a1]) ++ List.replicate (2 - (lg_sl ([.ref r0, .int a1])).length) Slot.unset).toArray = ls at hl ⊢
  have hl : lv_has ls 2 [(0, .ref r0), (1, .int a1)] := hl
  generalize hR : (headSpec (jw yX14_isString cX14_isString 2 (some .boolean)) ({ frames := 0, cells := 0, slots := 0, locals := 0 })).room = R
  subst hH0
  have hh : jSt (dC, dI) B base G0 G0 EX14_isStringK s.heap 0 0 [(r0, 16, 17, .ref zm)] [(zm, 117, 3100, ca 1, fs)] [] s.heap [] := jSt.start hX hP0 hM0 jIs.nil
  clear hX hP0
  have hk0 : (0 : Int32).toInt = 0 := by decide
  have hk1 : (1 : Int32).toInt = 1 := by decide
  have hk4 : (4 : Int32).toInt = 4 := by decide
  have hly_16_17 := htw (u_lay RX14 TX14 17) (jWc_wsX140 _ (u_in_lay (by decide)))
  have hlk_37 := (htw (.fieldLink RX14 37 "ProofServerModel" "sort" "[I") (jWr_11 _ (List.mem_of_getElem? (i := 4) rfl)))
  have hrg_a1 := jb_rng a1
  refine lv_iload_n hx hb dX14_isString_0 rfl (lv_at hl 1 rfl) ?_
  refine lv_if_lt (tgt := 18) hx hb dX14_isString_1 (by decide) (fun c_1 => ?_) (fun c_1 => ?_)
  · skip
    have c_1' : a1.toInt < 0 := jb_lt (rfl) ((by decide)) c_1
    refine lv_iconst (v := 0) hx hb dX14_isString_18 (by decide) ?_
    rw [hQ]
    exact W.zret (v := 0) hx hb hr (jb_nz (Or.inl rfl)) (fun t ht hW => ⟨⟨0, (), rfl, ⟨(Or.inl rfl), by first | omega | (refine ⟨?_, ?_, ?_⟩ <;> (first | omega | rfl | assumption | decide | exact Or.inl rfl | exact Or.inr rfl | (simp only; omega)))⟩, hh.rt (M1 := []) [] rfl ht⟩, by rw [ht]; try exact hh.1.1, fun q h9 hq => by rw [ht]; try exact hh.1.2.1 q h9 hq⟩) hh.1.2.2 dX14_isString_19
  · skip
    have c_1' : a1.toInt ≥ 0 := jb_lt_n (rfl) ((by decide)) c_1
    refine lv_aload_n hx hb dX14_isString_4 rfl (lv_at hl 0 rfl) ?_
    refine j7_read hx hb hown hK (C := RX14) (T := TX14) (N := 74) rfl hly_16_17 hlk_37 (hh.at 0 rfl) dX14_isString_5 ?_
    refine lv_iload_n hx hb dX14_isString_8 rfl (lv_at hl 1 rfl) ?_
    refine j7_ialdM hx hb hK hh hB117 1 rfl (by decide) hg_zm (x := a1.toInt) (rfl) (by omega) (j := 0) rfl dX14_isString_9 (fun z_2 ez_2 (hz_2 : True) => ?_)
    have hqz_2 : z_2.toInt = jSo fs (a1.toInt) := by unfold jSo; rw [ez_2]
    refine lv_iconst (v := 4) hx hb dX14_isString_10 (by decide) ?_
    refine lv_icmp_ne (tgt := 18) hx hb dX14_isString_11 (by decide) (fun c_3 => ?_) (fun c_3 => ?_)
    · skip
      have c_3' : z_2.toInt ≠ 4 := jb_ne (rfl) ((by decide)) c_3
      refine lv_iconst (v := 0) hx hb dX14_isString_18 (by decide) ?_
      rw [hQ]
      exact W.zret (v := 0) hx hb hr (jb_nz (Or.inl rfl)) (fun t ht hW => ⟨⟨0, (), rfl, ⟨(Or.inl rfl), by first | omega | (refine ⟨?_, ?_, ?_⟩ <;> (first | omega | rfl | assumption | decide | exact Or.inl rfl | exact Or.inr rfl | (simp only; omega)))⟩, hh.rt (M1 := []) [] rfl ht⟩, by rw [ht]; try exact hh.1.1, fun q h9 hq => by rw [ht]; try exact hh.1.2.1 q h9 hq⟩) hh.1.2.2 dX14_isString_19
    · skip
      have c_3' : z_2.toInt = 4 := jb_ne_n (rfl) ((by decide)) c_3
      refine lv_iconst (v := 1) hx hb dX14_isString_14 (by decide) ?_
      refine lv_goto (tgt := 19) hx hb dX14_isString_15 (by decide) ?_
      rw [hQ]
      exact W.zret (v := 1) hx hb hr (jb_nz (Or.inr rfl)) (fun t ht hW => ⟨⟨1, (), rfl, ⟨(Or.inr rfl), by first | omega | (refine ⟨?_, ?_, ?_⟩ <;> (first | omega | rfl | assumption | decide | exact Or.inl rfl | exact Or.inr rfl | (simp only; omega)))⟩, hh.rt (M1 := []) [] rfl ht⟩, by rw [ht]; try exact hh.1.1, fun q h9 hq => by rw [ht]; try exact hh.1.2.1 q h9 hq⟩) hh.1.2.2 dX14_isString_19
set_option maxHeartbeats 4000000 in
set_option maxRecDepth 20000 in
theorem uX14_isWholeK (l : Launch) (dC : Nat → ClassId) (dI : Nat → Nat → Nat) (ca : Nat → ClassId) (base : Nat) (B : jF) (hB : jBok B) (hAp : jAp (dC, dI)) (hB16 : ∀ n G a H, B 16 n G a H ↔ jOb (dC, dI) 16 74 (F16 n G) a H) (hB117 : ∀ n G a H, B 117 n G a H ↔ jAr (dC, dI) (ca 1) (fun j z => True) n a H) (hB124 : ∀ n G a H, B 124 n G a H ↔ jAr (dC, dI) (ca 3) (fun j z => (z = 0 ∨ z = 1)) n a H) (G0 : jT) (H0 : Heap) (r0 : Nat) (a1 : Int32) (zm : Nat) (fs : Nat → Int32) : Met l yX14_isWhole (jw yX14_isWhole cX14_isWhole 2 (some .boolean)) ({ frames := 0, cells := 0, slots := 0, locals := 0 }) (va_Pc [.ref r0, .int a1] (fun U => U.heap = H0 ∧ jX B base G0 [] H0 ∧ jG dC dI ca base U ∧ G0 r0 = some (16, 0) ∧ G0 zm = some (117, 3100) ∧ jP (dC, dI) G0 H0 [(r0, 16, 17, .ref zm)] ∧ jMc (dC, dI) G0 H0 [(zm, 117, 3100, ca 1, fs)] ∧ a1.toInt ≤ 3099)) (va_Qi (S := Unit) (fun r u => (r = 0 ∨ r = 1) ∧ (0 ≤ r.toInt ∧ r.toInt ≤ 1 ∧ (r.toInt = 1 → 0 ≤ a1.toInt ∧ jSo fs a1.toInt = 3))) (fun u t => jRt (dC, dI) B base G0 EX14_isWholeK H0 [] t.heap) (jA base)) 0 0 (jA base) := by
  refine Met.ofW (cc := cX14_isWhole) (maxL := 2) (ret := (some .boolean)) (by decide) rfl ?_
  intro p e s m args below meth c s₁ Bd hml hv
  obtain ⟨rfl, hH0, hX, hG, hg_r0, hg_zm, hP0, hM0, hp0⟩ := hv
  have hK := hG.1
  have hx := Bd.exec
  have hb := Bd.bytes
  have hr := Bd.returns
  have hts := atoms_spec (ws := (jw yX14_isWhole cX14_isWhole 2 (some .boolean))) Bd.pre
  have htw : ∀ w ∈ jWl, w.before _ s = true := fun w h => hts w (List.mem_cons_of_mem _ h)
  have hown : s.vm.findClass RX14 = some m.cls := findClass_of_methodNamed Bd.named
  have hlocks := Bd.notSynchronized
  obtain ⟨Q, hQ⟩ : ∃ Q, Q = MQ below (va_Qi (S := Unit) (fun r u => (r = 0 ∨ r = 1) ∧ (0 ≤ r.toInt ∧ r.toInt ≤ 1 ∧ (r.toInt = 1 → 0 ≤ a1.toInt ∧ jSo fs a1.toInt = 3))) (fun u t => jRt (dC, dI) B base G0 EX14_isWholeK H0 [] t.heap) (jA base)) ([.ref r0, .int a1] : List Value).toArray s 0 0 (jA base) := ⟨_, rfl⟩
  rw [← hQ]
  have hl := lv_entry ([.ref r0, .int a1]) (n := 2) (Nat.le_of_ble_eq_true rfl)
  rw [lg_entry_eq]
  generalize (lg_sl ([.ref r0, .int a1]) ++ List.replicate (2 - (lg_sl ([.ref r0, .int a1])).length) Slot.unset).toArray = ls at hl ⊢
  have hl : lv_has ls 2 [(0, .ref r0), (1, .int a1)] := hl
  generalize hR : (headSpec (jw yX14_isWhole cX14_isWhole 2 (some .boolean)) ({ frames := 0, cells := 0, slots := 0, locals := 0 })).room = R
  subst hH0
  have hh : jSt (dC, dI) B base G0 G0 EX14_isWholeK s.heap 0 0 [(r0, 16, 17, .ref zm)] [(zm, 117, 3100, ca 1, fs)] [] s.heap [] := jSt.start hX hP0 hM0 jIs.nil
  clear hX hP0
  have hk0 : (0 : Int32).toInt = 0 := by decide
  have hk1 : (1 : Int32).toInt = 1 := by decide
  have hk3 : (3 : Int32).toInt = 3 := by decide
  have hly_16_17 := htw (u_lay RX14 TX14 17) (jWc_wsX140 _ (u_in_lay (by decide)))
  have hly_16_24 := htw (u_lay RX14 TX14 24) (jWc_wsX140 _ (u_in_lay (by decide)))
  have hlk_37 := (htw (.fieldLink RX14 37 "ProofServerModel" "sort" "[I") (jWr_11 _ (List.mem_of_getElem? (i := 4) rfl)))
  have hlk_58 := (htw (.fieldLink RX14 58 "ProofServerModel" "isInt" "[Z") (jWr_11 _ (List.mem_of_getElem? (i := 12) rfl)))
  have hrg_a1 := jb_rng a1
  refine lv_iload_n hx hb dX14_isWhole_0 rfl (lv_at hl 1 rfl) ?_
  refine lv_if_lt (tgt := 27) hx hb dX14_isWhole_1 (by decide) (fun c_1 => ?_) (fun c_1 => ?_)
  · skip
    have c_1' : a1.toInt < 0 := jb_lt (rfl) ((by decide)) c_1
    refine lv_iconst (v := 0) hx hb dX14_isWhole_27 (by decide) ?_
    rw [hQ]
    exact W.zret (v := 0) hx hb hr (jb_nz (Or.inl rfl)) (fun t ht hW => ⟨⟨0, (), rfl, ⟨(Or.inl rfl), by first | omega | (refine ⟨?_, ?_, ?_⟩ <;> (first | omega | rfl | assumption | decide | exact Or.inl rfl | exact Or.inr rfl | (simp only; omega)))⟩, hh.rt (M1 := []) [] rfl ht⟩, by rw [ht]; try exact hh.1.1, fun q h9 hq => by rw [ht]; try exact hh.1.2.1 q h9 hq⟩) hh.1.2.2 dX14_isWhole_28
  · skip
    have c_1' : a1.toInt ≥ 0 := jb_lt_n (rfl) ((by decide)) c_1
    refine lv_aload_n hx hb dX14_isWhole_4 rfl (lv_at hl 0 rfl) ?_
    refine j7_read hx hb hown hK (C := RX14) (T := TX14) (N := 74) rfl hly_16_17 hlk_37 (hh.at 0 rfl) dX14_isWhole_5 ?_
    refine lv_iload_n hx hb dX14_isWhole_8 rfl (lv_at hl 1 rfl) ?_
    refine j7_ialdM hx hb hK hh hB117 1 rfl (by decide) hg_zm (x := a1.toInt) (rfl) (by omega) (j := 0) rfl dX14_isWhole_9 (fun z_2 ez_2 (hz_2 : True) => ?_)
    have hqz_2 : z_2.toInt = jSo fs (a1.toInt) := by unfold jSo; rw [ez_2]
    refine lv_iconst (v := 3) hx hb dX14_isWhole_10 (by decide) ?_
    refine lv_icmp_ne (tgt := 27) hx hb dX14_isWhole_11 (by decide) (fun c_3 => ?_) (fun c_3 => ?_)
    · skip
      have c_3' : z_2.toInt ≠ 3 := jb_ne (rfl) ((by decide)) c_3
      refine lv_iconst (v := 0) hx hb dX14_isWhole_27 (by decide) ?_
      rw [hQ]
      exact W.zret (v := 0) hx hb hr (jb_nz (Or.inl rfl)) (fun t ht hW => ⟨⟨0, (), rfl, ⟨(Or.inl rfl), by first | omega | (refine ⟨?_, ?_, ?_⟩ <;> (first | omega | rfl | assumption | decide | exact Or.inl rfl | exact Or.inr rfl | (simp only; omega)))⟩, hh.rt (M1 := []) [] rfl ht⟩, by rw [ht]; try exact hh.1.1, fun q h9 hq => by rw [ht]; try exact hh.1.2.1 q h9 hq⟩) hh.1.2.2 dX14_isWhole_28
    · skip
      have c_3' : z_2.toInt = 3 := jb_ne_n (rfl) ((by decide)) c_3
      refine lv_aload_n hx hb dX14_isWhole_14 rfl (lv_at hl 0 rfl) ?_
      obtain ⟨v_4, hv_4, hh_5⟩ := hh.pin (C := RX14) (T := TX14) (N := 74) hB16 rfl (by decide) hg_r0 (i := 24) (by decide) rfl
      clear hh
      obtain ⟨isInt_6, rfl, hg_isInt_6⟩ := hv_4
      refine j7_read hx hb hown hK (C := RX14) (T := TX14) (N := 74) rfl hly_16_24 hlk_58 (hh_5.at 0 rfl) dX14_isWhole_15 ?_
      refine lv_iload_n hx hb dX14_isWhole_18 rfl (lv_at hl 1 rfl) ?_
      refine j7_zald hx hb hK hh_5 hB124 3 rfl (by decide) hg_isInt_6 (x := a1.toInt) (rfl) (by omega) dX14_isWhole_19 (fun z_7 (hz_7 : (z_7 = 0 ∨ z_7 = 1)) => ?_)
      have hz_7' := jb_01 hz_7
      refine lv_if_eq (tgt := 27) hx hb dX14_isWhole_20 (by decide) (fun c_8 => ?_) (fun c_8 => ?_)
      · skip
        have c_8' : z_7.toInt = 0 := jb_eq (rfl) ((by decide)) c_8
        refine lv_iconst (v := 0) hx hb dX14_isWhole_27 (by decide) ?_
        rw [hQ]
        exact W.zret (v := 0) hx hb hr (jb_nz (Or.inl rfl)) (fun t ht hW => ⟨⟨0, (), rfl, ⟨(Or.inl rfl), by first | omega | (refine ⟨?_, ?_, ?_⟩ <;> (first | omega | rfl | assumption | decide | exact Or.inl rfl | exact Or.inr rfl | (simp only; omega)))⟩, hh_5.rt (M1 := []) [] rfl ht⟩, by rw [ht]; try exact hh_5.1.1, fun q h9 hq => by rw [ht]; try exact hh_5.1.2.1 q h9 hq⟩) hh_5.1.2.2 dX14_isWhole_28
      · skip
        have c_8' : z_7.toInt ≠ 0 := jb_eq_n (rfl) ((by decide)) c_8
        refine lv_iconst (v := 1) hx hb dX14_isWhole_23 (by decide) ?_
        refine lv_goto (tgt := 28) hx hb dX14_isWhole_24 (by decide) ?_
        rw [hQ]
        exact W.zret (v := 1) hx hb hr (jb_nz (Or.inr rfl)) (fun t ht hW => ⟨⟨1, (), rfl, ⟨(Or.inr rfl), by first | omega | (refine ⟨?_, ?_, ?_⟩ <;> (first | omega | rfl | assumption | decide | exact Or.inl rfl | exact Or.inr rfl | (simp only; omega)))⟩, hh_5.rt (M1 := []) [] rfl ht⟩, by rw [ht]; try exact hh_5.1.1, fun q h9 hq => by rw [ht]; try exact hh_5.1.2.1 q h9 hq⟩) hh_5.1.2.2 dX14_isWhole_28
set_option maxHeartbeats 4000000 in
set_option maxRecDepth 20000 in
theorem uX14_isIdK (l : Launch) (dC : Nat → ClassId) (dI : Nat → Nat → Nat) (ca : Nat → ClassId) (base : Nat) (B : jF) (hB : jBok B) (hAp : jAp (dC, dI)) (hB16 : ∀ n G a H, B 16 n G a H ↔ jOb (dC, dI) 16 74 (F16 n G) a H) (hB117 : ∀ n G a H, B 117 n G a H ↔ jAr (dC, dI) (ca 1) (fun j z => True) n a H) (hB122 : ∀ n G a H, B 122 n G a H ↔ jAr (dC, dI) (ca 1) (fun j z => 0 ≤ z.toInt ∧ z.toInt ≤ 3100) n a H) (hB123 : ∀ n G a H, B 123 n G a H ↔ jAr (dC, dI) (ca 1) (fun j z => 0 ≤ z.toInt ∧ z.toInt ≤ 3100) n a H) (hB124 : ∀ n G a H, B 124 n G a H ↔ jAr (dC, dI) (ca 3) (fun j z => (z = 0 ∨ z = 1)) n a H) (G0 : jT) (H0 : Heap) (r0 : Nat) (a1 : Int32) (zm : Nat) (xb : Nat) (xe : Nat) (fs : Nat → Int32) (fb : Nat → Int32) (fe : Nat → Int32) : Met l yX14_isId (jw yX14_isId cX14_isId 2 (some .boolean)) ({ frames := 1, cells := 0, slots := 0, locals := 21 }) (va_Pc [.ref r0, .int a1] (fun U => U.heap = H0 ∧ jX B base G0 [] H0 ∧ jG dC dI ca base U ∧ G0 r0 = some (16, 0) ∧ G0 zm = some (117, 3100) ∧ G0 xb = some (122, 3100) ∧ G0 xe = some (123, 3100) ∧ jP (dC, dI) G0 H0 [(r0, 16, 17, .ref zm), (r0, 16, 22, .ref xb), (r0, 16, 23, .ref xe)] ∧ jMc (dC, dI) G0 H0 [(zm, 117, 3100, ca 1, fs), (xb, 122, 3100, ca 1, fb), (xe, 123, 3100, ca 1, fe)] ∧ a1.toInt ≤ 3099)) (va_Qi (S := Unit) (fun r u => (r = 0 ∨ r = 1) ∧ (0 ≤ r.toInt ∧ r.toInt ≤ 1 ∧ (r.toInt = 1 → 0 ≤ a1.toInt ∧ (jSo fs a1.toInt = 4 → jSo fe a1.toInt - jSo fb a1.toInt ≤ 20)))) (fun u t => jRt (dC, dI) B base G0 EX14_isIdK H0 [] t.heap) (jA base)) 0 0 (jA base) := by
  refine Met.ofW (cc := cX14_isId) (maxL := 2) (ret := (some .boolean)) (by decide) rfl ?_
  intro p e s m args below meth c s₁ Bd hml hv
  obtain ⟨rfl, hH0, hX, hG, hg_r0, hg_zm, hg_xb, hg_xe, hP0, hM0, hp0⟩ := hv
  have hK := hG.1
  have hx := Bd.exec
  have hb := Bd.bytes
  have hr := Bd.returns
  have hts := atoms_spec (ws := (jw yX14_isId cX14_isId 2 (some .boolean))) Bd.pre
  have htw : ∀ w ∈ jWl, w.before _ s = true := fun w h => hts w (List.mem_cons_of_mem _ h)
  have hown : s.vm.findClass RX14 = some m.cls := findClass_of_methodNamed Bd.named
  have hlocks := Bd.notSynchronized
  obtain ⟨Q, hQ⟩ : ∃ Q, Q = MQ below (va_Qi (S := Unit) (fun r u => (r = 0 ∨ r = 1) ∧ (0 ≤ r.toInt ∧ r.toInt ≤ 1 ∧ (r.toInt = 1 → 0 ≤ a1.toInt ∧ (jSo fs a1.toInt = 4 → jSo fe a1.toInt - jSo fb a1.toInt ≤ 20)))) (fun u t => jRt (dC, dI) B base G0 EX14_isIdK H0 [] t.heap) (jA base)) ([.ref r0, .int a1] : List Value).toArray s 0 0 (jA base) := ⟨_, rfl⟩
  rw [← hQ]
  have hl := lv_entry ([.ref r0, .int a1]) (n := 2) (Nat.le_of_ble_eq_true rfl)
  rw [lg_entry_eq]
  generalize (lg_sl ([.ref r0, .int a1]) ++ List.replicate (2 - (lg_sl ([.ref r0, .int a1])).length) Slot.unset).toArray = ls at hl ⊢
  have hl : lv_has ls 2 [(0, .ref r0), (1, .int a1)] := hl
  generalize hR : (headSpec (jw yX14_isId cX14_isId 2 (some .boolean)) ({ frames := 1, cells := 0, slots := 0, locals := 21 })).room = R
  subst hH0
  have hh : jSt (dC, dI) B base G0 G0 EX14_isIdK s.heap 0 0 [(r0, 16, 17, .ref zm), (r0, 16, 22, .ref xb), (r0, 16, 23, .ref xe)] [(zm, 117, 3100, ca 1, fs), (xb, 122, 3100, ca 1, fb), (xe, 123, 3100, ca 1, fe)] [] s.heap [] := jSt.start hX hP0 hM0 jIs.nil
  clear hX hP0
  have hk0 : (0 : Int32).toInt = 0 := by decide
  have hk1 : (1 : Int32).toInt = 1 := by decide
  have hk20 : (20 : Int32).toInt = 20 := by decide
  have hly_16_22 := htw (u_lay RX14 TX14 22) (jWc_wsX140 _ (u_in_lay (by decide)))
  have hly_16_23 := htw (u_lay RX14 TX14 23) (jWc_wsX140 _ (u_in_lay (by decide)))
  have hlk_55 := (htw (.fieldLink RX14 55 "ProofServerModel" "to" "[I") (jWr_11 _ (List.mem_of_getElem? (i := 10) rfl)))
  have hlk_52 := (htw (.fieldLink RX14 52 "ProofServerModel" "from" "[I") (jWr_11 _ (List.mem_of_getElem? (i := 9) rfl)))
  have hrg_a1 := jb_rng a1
  refine lv_aload_n hx hb dX14_isId_0 rfl (lv_at hl 0 rfl) ?_
  refine lv_iload_n hx hb dX14_isId_1 rfl (lv_at hl 1 rfl) ?_
  refine va_calli (A0 := jA base) (H0 := s.heap) (va_runV (As := [.int a1]) (rest := []) ⟨hx, hb, hml, hown, hts⟩ (uX14_isWholeK l dC dI ca base B hB hAp hB16 hB117 hB124 G0 s.heap r0 a1 zm fs) (cwV 1 hts (jgV (jWr_56 _ (List.mem_of_getElem? (i := 11) rfl)) (jWr_56 _ (List.mem_of_getElem? (i := 12) rfl)) (jWr_56 _ (List.mem_of_getElem? (i := 13) rfl)) (jWr_1 _ (List.mem_of_getElem? (i := 5) rfl)) (jWr_56 _ (List.mem_of_getElem? (i := 14) rfl))) rfl rfl rfl (by decide +kernel) ⟨by rw [← hR]; exact Nat.le_of_ble_eq_true rfl, by rw [← hR]; exact Nat.le_of_ble_eq_true rfl⟩) ⟨fun a U g mk q => by obtain ⟨q0, q1, q2, qK, q10, q11, q12, q13, q14⟩ := q; exact ⟨q0, q1, q2, jG.calling g mk a qK, q10, q11, q12, q13, q14⟩, hh.recv (C := RX14) (T := TX14) (N := 74) hB16 rfl (by decide) hg_r0 hK, fun U hU hW => ⟨rfl, hU, hh.2.1, hG.step hW hU hh.1, hg_r0, hg_zm, (hh.2.2.1.sub (L1 := [(r0, 16, 17, .ref zm)]) [0] rfl), (hh.2.2.2.2.2.2.2.1.sub (L1 := [(zm, 117, 3100, ca 1, fs)]) [0] rfl), by first | omega | rfl | assumption | decide | exact Or.inl rfl | exact Or.inr rfl | (simp only; omega)⟩⟩ rfl rfl hl.1 rfl (lv_room (Nat.le_of_ble_eq_true rfl)) dX14_isId_2 ⟨Nat.zero_le _, Nat.zero_le _⟩) hh.1 (fun q _ h => h) (fun q h => h) (fun r_2 u_1 t_1 H_1 locs_1 ht_1 hvm_1 hr_2 hb_1 hz_1 hk_1 hS_1 => ?_)
  rw [ht_1] at hb_1
  obtain ⟨hb_11, hb_12, hb_13, hb_14, hb_15⟩ := hb_1
  have hh_1 : jSt (dC, dI) B base G0 G0 EX14_isIdK s.heap 0 0 [(r0, 16, 17, .ref zm), (r0, 16, 22, .ref xb), (r0, 16, 23, .ref xe)] [(zm, 117, 3100, ca 1, fs), (xb, 122, 3100, ca 1, fb), (xe, 123, 3100, ca 1, fe)] [] H_1 locs_1 := ((hh.call hb_11 hb_12 hb_13 hb_14 hS_1 rfl (L1 := [(r0, 16, 17, .ref zm), (r0, 16, 22, .ref xb), (r0, 16, 23, .ref xe)]) [0, 1, 2] rfl rfl (M1 := [(zm, 117, 3100, ca 1, fs), (xb, 122, 3100, ca 1, fb), (xe, 123, 3100, ca 1, fe)]) [0, 1, 2] rfl rfl (I1 := []) [] rfl rfl).more hb_15)
  clear hh ht_1 hvm_1 hz_1 hk_1 hS_1 hb_11 hb_12 hb_13 hb_14 hb_15
  obtain ⟨hr_2b, hr_2p⟩ := hr_2
  obtain ⟨hr_2p_0, hr_2p_1, hr_2p_2⟩ := hr_2p
  have hr_2' := jb_01 hr_2b
  refine lv_if_ne (tgt := 34) hx hb dX14_isId_5 (by decide) (fun c_3 => ?_) (fun c_3 => ?_)
  · skip
    have c_3' : r_2.toInt ≠ 0 := jb_ne (rfl) ((by decide)) c_3
    refine lv_iconst (v := 1) hx hb dX14_isId_34 (by decide) ?_
    refine lv_goto (tgt := 39) hx hb dX14_isId_35 (by decide) ?_
    rw [hQ]
    exact W.zret (v := 1) hx hb hr (jb_nz (Or.inr rfl)) (fun t ht hW => ⟨⟨1, (), rfl, ⟨(Or.inr rfl), by first | omega | (refine ⟨?_, ?_, ?_⟩ <;> (first | omega | rfl | assumption | decide | exact Or.inl rfl | exact Or.inr rfl | (simp only; omega)))⟩, hh_1.rt (M1 := []) [] rfl ht⟩, by rw [ht]; try exact hh_1.1.1, fun q h9 hq => by rw [ht]; try exact hh_1.1.2.1 q h9 hq⟩) hh_1.1.2.2 dX14_isId_39
  · skip
    have c_3' : r_2.toInt = 0 := jb_ne_n (rfl) ((by decide)) c_3
    refine lv_aload_n hx hb dX14_isId_8 rfl (lv_at hl 0 rfl) ?_
    refine lv_iload_n hx hb dX14_isId_9 rfl (lv_at hl 1 rfl) ?_
    refine va_calli (A0 := jA base) (H0 := s.heap) (va_runV (As := [.int a1]) (rest := []) ⟨hx, hb, hml, hown, hts⟩ (uX14_isStringK l dC dI ca base B hB hAp hB16 hB117 G0 H_1 r0 a1 zm fs) (cwV 1 hts (jgV (jWr_56 _ (List.mem_of_getElem? (i := 3) rfl)) (jWr_56 _ (List.mem_of_getElem? (i := 4) rfl)) (jWr_56 _ (List.mem_of_getElem? (i := 5) rfl)) (jWr_1 _ (List.mem_of_getElem? (i := 5) rfl)) (jWr_56 _ (List.mem_of_getElem? (i := 6) rfl))) rfl rfl rfl (by decide +kernel) ⟨by rw [← hR]; exact Nat.le_of_ble_eq_true rfl, by rw [← hR]; exact Nat.le_of_ble_eq_true rfl⟩) ⟨fun a U g mk q => by obtain ⟨q0, q1, q2, qK, q10, q11, q12, q13, q14⟩ := q; exact ⟨q0, q1, q2, jG.calling g mk a qK, q10, q11, q12, q13, q14⟩, hh_1.recv (C := RX14) (T := TX14) (N := 74) hB16 rfl (by decide) hg_r0 hK, fun U hU hW => ⟨rfl, hU, hh_1.2.1, hG.step hW hU hh_1.1, hg_r0, hg_zm, (hh_1.2.2.1.sub (L1 := [(r0, 16, 17, .ref zm)]) [0] rfl), (hh_1.2.2.2.2.2.2.2.1.sub (L1 := [(zm, 117, 3100, ca 1, fs)]) [0] rfl), by first | omega | rfl | assumption | decide | exact Or.inl rfl | exact Or.inr rfl | (simp only; omega)⟩⟩ rfl rfl hl.1 rfl (lv_room (Nat.le_of_ble_eq_true rfl)) dX14_isId_10 ⟨Nat.zero_le _, Nat.zero_le _⟩) hh_1.1 (fun q _ h => h) (fun q h => h) (fun r_5 u_4 t_4 H_4 locs_4 ht_4 hvm_4 hr_5 hb_4 hz_4 hk_4 hS_4 => ?_)
    rw [ht_4] at hb_4
    obtain ⟨hb_41, hb_42, hb_43, hb_44, hb_45⟩ := hb_4
    have hh_4 : jSt (dC, dI) B base G0 G0 EX14_isIdK s.heap 0 0 [(r0, 16, 17, .ref zm), (r0, 16, 22, .ref xb), (r0, 16, 23, .ref xe)] [(zm, 117, 3100, ca 1, fs), (xb, 122, 3100, ca 1, fb), (xe, 123, 3100, ca 1, fe)] [] H_4 locs_4 := ((hh_1.call hb_41 hb_42 hb_43 hb_44 hS_4 rfl (L1 := [(r0, 16, 17, .ref zm), (r0, 16, 22, .ref xb), (r0, 16, 23, .ref xe)]) [0, 1, 2] rfl rfl (M1 := [(zm, 117, 3100, ca 1, fs), (xb, 122, 3100, ca 1, fb), (xe, 123, 3100, ca 1, fe)]) [0, 1, 2] rfl rfl (I1 := []) [] rfl rfl).more hb_45)
    clear hh_1 ht_4 hvm_4 hz_4 hk_4 hS_4 hb_41 hb_42 hb_43 hb_44 hb_45
    obtain ⟨hr_5b, hr_5p⟩ := hr_5
    obtain ⟨hr_5p_0, hr_5p_1, hr_5p_2⟩ := hr_5p
    have hr_5' := jb_01 hr_5b
    refine lv_if_eq (tgt := 38) hx hb dX14_isId_13 (by decide) (fun c_6 => ?_) (fun c_6 => ?_)
    · skip
      have c_6' : r_5.toInt = 0 := jb_eq (rfl) ((by decide)) c_6
      refine lv_iconst (v := 0) hx hb dX14_isId_38 (by decide) ?_
      rw [hQ]
      exact W.zret (v := 0) hx hb hr (jb_nz (Or.inl rfl)) (fun t ht hW => ⟨⟨0, (), rfl, ⟨(Or.inl rfl), by first | omega | (refine ⟨?_, ?_, ?_⟩ <;> (first | omega | rfl | assumption | decide | exact Or.inl rfl | exact Or.inr rfl | (simp only; omega)))⟩, hh_4.rt (M1 := []) [] rfl ht⟩, by rw [ht]; try exact hh_4.1.1, fun q h9 hq => by rw [ht]; try exact hh_4.1.2.1 q h9 hq⟩) hh_4.1.2.2 dX14_isId_39
    · skip
      have c_6' : r_5.toInt ≠ 0 := jb_eq_n (rfl) ((by decide)) c_6
      refine lv_aload_n hx hb dX14_isId_16 rfl (lv_at hl 0 rfl) ?_
      refine j7_read hx hb hown hK (C := RX14) (T := TX14) (N := 74) rfl hly_16_23 hlk_55 (hh_4.at 2 rfl) dX14_isId_17 ?_
      refine lv_iload_n hx hb dX14_isId_20 rfl (lv_at hl 1 rfl) ?_
      refine j7_ialdM hx hb hK hh_4 hB123 1 rfl (by decide) hg_xe (x := a1.toInt) (rfl) (by omega) (j := 2) rfl dX14_isId_21 (fun z_7 ez_7 (hz_7 : 0 ≤ z_7.toInt ∧ z_7.toInt ≤ 3100) => ?_)
      have hqz_7 : z_7.toInt = jSo fe (a1.toInt) := by unfold jSo; rw [ez_7]
      refine lv_aload_n hx hb dX14_isId_22 rfl (lv_at hl 0 rfl) ?_
      refine j7_read hx hb hown hK (C := RX14) (T := TX14) (N := 74) rfl hly_16_22 hlk_52 (hh_4.at 1 rfl) dX14_isId_23 ?_
      refine lv_iload_n hx hb dX14_isId_26 rfl (lv_at hl 1 rfl) ?_
      refine j7_ialdM hx hb hK hh_4 hB122 1 rfl (by decide) hg_xb (x := a1.toInt) (rfl) (by omega) (j := 1) rfl dX14_isId_27 (fun z_8 ez_8 (hz_8 : 0 ≤ z_8.toInt ∧ z_8.toInt ≤ 3100) => ?_)
      have hqz_8 : z_8.toInt = jSo fb (a1.toInt) := by unfold jSo; rw [ez_8]
      refine lv_isub hx hb dX14_isId_28 ?_
      refine lv_topi (fun z_9 ez_9 => ?_)
      have hz_9 : z_9.toInt = z_7.toInt - z_8.toInt := by rw [ez_9]; exact jb_isub2 (rfl) (rfl) (by omega)
      refine lv_bipush (v := 20) hx hb dX14_isId_29 (by decide) ?_
      refine lv_icmp_gt (tgt := 38) hx hb dX14_isId_31 (by decide) (fun c_10 => ?_) (fun c_10 => ?_)
      · skip
        have c_10' : z_9.toInt > 20 := jb_gt (rfl) ((by decide)) c_10
        refine lv_iconst (v := 0) hx hb dX14_isId_38 (by decide) ?_
        rw [hQ]
        exact W.zret (v := 0) hx hb hr (jb_nz (Or.inl rfl)) (fun t ht hW => ⟨⟨0, (), rfl, ⟨(Or.inl rfl), by first | omega | (refine ⟨?_, ?_, ?_⟩ <;> (first | omega | rfl | assumption | decide | exact Or.inl rfl | exact Or.inr rfl | (simp only; omega)))⟩, hh_4.rt (M1 := []) [] rfl ht⟩, by rw [ht]; try exact hh_4.1.1, fun q h9 hq => by rw [ht]; try exact hh_4.1.2.1 q h9 hq⟩) hh_4.1.2.2 dX14_isId_39
      · skip
        have c_10' : z_9.toInt ≤ 20 := jb_gt_n (rfl) ((by decide)) c_10
        refine lv_iconst (v := 1) hx hb dX14_isId_34 (by decide) ?_
        refine lv_goto (tgt := 39) hx hb dX14_isId_35 (by decide) ?_
        rw [hQ]
        exact W.zret (v := 1) hx hb hr (jb_nz (Or.inr rfl)) (fun t ht hW => ⟨⟨1, (), rfl, ⟨(Or.inr rfl), by first | omega | (refine ⟨?_, ?_, ?_⟩ <;> (first | omega | rfl | assumption | decide | exact Or.inl rfl | exact Or.inr rfl | (simp only; omega)))⟩, hh_4.rt (M1 := []) [] rfl ht⟩, by rw [ht]; try exact hh_4.1.1, fun q h9 hq => by rw [ht]; try exact hh_4.1.2.1 q h9 hq⟩) hh_4.1.2.2 dX14_isId_39
end
section
def jPos (so hr nf nt nx fp : Nat → Int32) (a : Int) : Prop := 0 ≤ jMb so hr nf nt nx fp (jChT "line") 4 a ∧ 0 ≤ jMb so hr nf nt nx fp (jChT "character") 9 a
end
section
def EX14_documentOfK : List (Nat × Nat) := []
set_option maxHeartbeats 4000000 in
set_option maxRecDepth 20000 in
theorem uX14_documentOfK (l : Launch) (dC : Nat → ClassId) (dI : Nat → Nat → Nat) (ca : Nat → ClassId) (base : Nat) (B : jF) (hB : jBok B) (hAp : jAp (dC, dI)) (hB14 : ∀ n G a H, B 14 n G a H ↔ jOb (dC, dI) 14 11 (F14 n G) a H) (hB16 : ∀ n G a H, B 16 n G a H ↔ jOb (dC, dI) 16 74 (F16 n G) a H) (hB117 : ∀ n G a H, B 117 n G a H ↔ jAr (dC, dI) (ca 1) (fun j z => True) n a H) (hB122 : ∀ n G a H, B 122 n G a H ↔ jAr (dC, dI) (ca 1) (fun j z => 0 ≤ z.toInt ∧ z.toInt ≤ 3100) n a H) (hB123 : ∀ n G a H, B 123 n G a H ↔ jAr (dC, dI) (ca 1) (fun j z => 0 ≤ z.toInt ∧ z.toInt ≤ 3100) n a H) (hB127 : ∀ n G a H, B 127 n G a H ↔ jAr (dC, dI) (ca 1) (fun j z => True) n a H) (hB195 : ∀ n G a H, B 195 n G a H ↔ jAr (dC, dI) (ca 1) (fun j z => True) n a H) (hB201 : ∀ n G a H, B 201 n G a H ↔ jAq (dC, dI) (ca 4) (jQs 14 0) n G a H) (G0 : jT) (H0 : Heap) (r0 : Nat) (a1 : Int32) (dd : Nat) (dc : Int32) (co : Nat) (cs : Nat) (ol : Nat) (nw : Nat) (td : Nat) (sn ck : Nat → Int32) (fd fo : Nat → Option Nat) (fs : Nat → Int32) : Met l yX14_documentOf (jw yX14_documentOf cX14_documentOf 6 (some (.object "ProofServerModel$Document"))) ({ frames := 1, cells := 0, slots := 0, locals := 21 }) (va_Pc [.ref r0, .int a1] (fun U => U.heap = H0 ∧ jX B base G0 [] H0 ∧ jG dC dI ca base U ∧ jK2 dC dI ca U ∧ G0 r0 = some (16, 0) ∧ G0 dd = some (201, 3) ∧ G0 co = some (208, 2) ∧ G0 cs = some (207, 2) ∧ G0 ol = some (14, 0) ∧ G0 nw = some (14, 0) ∧ G0 td = some (14, 0) ∧ jP (dC, dI) G0 H0 [(r0, 16, 41, .ref dd), (r0, 16, 42, .int dc), (r0, 16, 60, .ref co), (r0, 16, 61, .ref cs), (r0, 16, 46, .ref ol), (r0, 16, 47, .ref nw), (r0, 16, 71, .ref td)] ∧ jMc (dC, dI) G0 H0 [(cs, 207, 2, ca 1, fs)] ∧ jIs (dC, dI) G0 H0 [(jFs, jDY dC dI ca G0 none sn), (jF9, jVl dC dI G0 9 ck), ([(201, 0)], jQc dC dI (ca 4) dd 3 fd), ([(208, 0)], jQc dC dI (ca 4) co 2 fo)] ∧ jPu sn ck fd fo fs dc.toInt ol nw td ∧ a1.toInt ≤ 3099)) (jQx (S := Unit) (fun v u => jRp G0 14 0 (fun x => ∃ d : Nat, d < 3 ∧ (d : Int) < dc.toInt ∧ fd d = some x) v) (fun u t => jRt (dC, dI) B base G0 EX14_documentOfK H0 [] t.heap) (jA base)) 0 0 (jA base) := by
  refine Met.ofW (cc := cX14_documentOf) (maxL := 6) (ret := (some (.object "ProofServerModel$Document"))) (by decide) rfl ?_
  intro p e s m args below meth c s₁ Bd hml hv
  obtain ⟨rfl, hH0, hX, hG, hK2, hg_r0, hg_dd, hg_co, hg_cs, hg_ol, hg_nw, hg_td, hP0, hM0, hI0, hp0, hp1⟩ := hv
  have hK := hG.1
  have hx := Bd.exec
  have hb := Bd.bytes
  have hr := Bd.returns
  have hts := atoms_spec (ws := (jw yX14_documentOf cX14_documentOf 6 (some (.object "ProofServerModel$Document")))) Bd.pre
  have htw : ∀ w ∈ jWl, w.before _ s = true := fun w h => hts w (List.mem_cons_of_mem _ h)
  have hown : s.vm.findClass RX14 = some m.cls := findClass_of_methodNamed Bd.named
  have hlocks := Bd.notSynchronized
  obtain ⟨Q, hQ⟩ : ∃ Q, Q = MQ below (jQx (S := Unit) (fun v u => jRp G0 14 0 (fun x => ∃ d : Nat, d < 3 ∧ (d : Int) < dc.toInt ∧ fd d = some x) v) (fun u t => jRt (dC, dI) B base G0 EX14_documentOfK H0 [] t.heap) (jA base)) ([.ref r0, .int a1] : List Value).toArray s 0 0 (jA base) := ⟨_, rfl⟩
  rw [← hQ]
  have hl := lv_entry ([.ref r0, .int a1]) (n := 6) (Nat.le_of_ble_eq_true rfl)
  rw [lg_entry_eq]
  generalize (lg_sl ([.ref r0, .int a1]) ++ List.replicate (6 - (lg_sl ([.ref r0, .int a1])).length) Slot.unset).toArray = ls at hl ⊢
  have hl : lv_has ls 6 [(0, .ref r0), (1, .int a1)] := hl
  generalize hR : (headSpec (jw yX14_documentOf cX14_documentOf 6 (some (.object "ProofServerModel$Document"))) ({ frames := 1, cells := 0, slots := 0, locals := 21 })).room = R
  subst hH0
  have hh : jSt (dC, dI) B base G0 G0 EX14_documentOfK s.heap 0 0 [(r0, 16, 41, .ref dd), (r0, 16, 42, .int dc), (r0, 16, 60, .ref co), (r0, 16, 61, .ref cs), (r0, 16, 46, .ref ol), (r0, 16, 47, .ref nw), (r0, 16, 71, .ref td)] [(cs, 207, 2, ca 1, fs)] [(jFs, jDY dC dI ca G0 none sn), (jF9, jVl dC dI G0 9 ck), ([(201, 0)], jQc dC dI (ca 4) dd 3 fd), ([(208, 0)], jQc dC dI (ca 4) co 2 fo)] s.heap [] := jSt.start hX hP0 hM0 hI0
  clear hX hP0
  have hk0 : (0 : Int32).toInt = 0 := by decide
  have hk1 : (1 : Int32).toInt = 1 := by decide
  have hly_14_0 := htw (u_lay RX12 TX12 0) (jWc_wsX120 _ (u_in_lay (by decide)))
  have hly_14_1 := htw (u_lay RX12 TX12 1) (jWc_wsX120 _ (u_in_lay (by decide)))
  have hly_16_22 := htw (u_lay RX14 TX14 22) (jWc_wsX140 _ (u_in_lay (by decide)))
  have hly_16_23 := htw (u_lay RX14 TX14 23) (jWc_wsX140 _ (u_in_lay (by decide)))
  have hly_16_27 := htw (u_lay RX14 TX14 27) (jWc_wsX140 _ (u_in_lay (by decide)))
  have hly_16_41 := htw (u_lay RX14 TX14 41) (jWc_wsX140 _ (u_in_lay (by decide)))
  have hly_16_42 := htw (u_lay RX14 TX14 42) (jWc_wsX140 _ (u_in_lay (by decide)))
  have hlk_505 := (htw (.fieldLink RX14 505 "ProofServerModel" "documentCount" "I") (jWr_57 _ (List.mem_of_getElem? (i := 5) rfl)))
  have hlk_74 := (htw (.fieldLink RX14 74 "ProofServerModel" "documents" "[LProofServerModel$Document;") (jWr_11 _ (List.mem_of_getElem? (i := 19) rfl)))
  have hlk_508 := (va_Nw.use (A := ([.ref r0, .int a1] : List Value).toArray) rfl (hG.2.1 RX14 508 "ProofServerModel$Document" "uriLength" "I" "ProofServerModel" (List.mem_of_getElem? (i := 1732) (by decide +kernel))))
  have hlk_55 := (htw (.fieldLink RX14 55 "ProofServerModel" "to" "[I") (jWr_11 _ (List.mem_of_getElem? (i := 10) rfl)))
  have hlk_52 := (htw (.fieldLink RX14 52 "ProofServerModel" "from" "[I") (jWr_11 _ (List.mem_of_getElem? (i := 9) rfl)))
  have hlk_511 := (va_Nw.use (A := ([.ref r0, .int a1] : List Value).toArray) rfl (hG.2.1 RX14 511 "ProofServerModel$Document" "uri" "[I" "ProofServerModel" (List.mem_of_getElem? (i := 1731) (by decide +kernel))))
  have hlk_65 := (htw (.fieldLink RX14 65 "ProofServerModel" "pool" "[I") (jWr_11 _ (List.mem_of_getElem? (i := 14) rfl)))
  have hrg_a1 := jb_rng a1
  obtain ⟨sx_1, esx_1, hsx_1⟩ := hh.sat (C := RX14) (T := TX14) (N := 74) hB16 rfl (by decide) hg_r0 (i := 42) (by decide) rfl 1 rfl
  cases esx_1
  refine lv_aload_n hx hb dX14_documentOf_0 rfl (lv_at hl 0 rfl) ?_
  refine lv_iload_n hx hb dX14_documentOf_1 rfl (lv_at hl 1 rfl) ?_
  obtain ⟨v_4, hv_4, hh_5⟩ := hh.pin (C := RX14) (T := TX14) (N := 74) hB16 rfl (by decide) hg_r0 (i := 17) (by decide) rfl
  obtain ⟨sort_6, rfl, hg_sort_6⟩ := hv_4
  obtain ⟨f_fs_7, hh_7⟩ := hh_5.cpin hB117 (by decide) (by decide) hg_sort_6
  clear hh_5
  refine va_calli (A0 := jA base) (H0 := s.heap) (va_runV (As := [.int a1]) (rest := []) ⟨hx, hb, hml, hown, hts⟩ (uX14_isStringK l dC dI ca base B hB hAp hB16 hB117 G0 s.heap r0 a1 sort_6 f_fs_7) (cwV 1 hts (jgV (jWr_56 _ (List.mem_of_getElem? (i := 3) rfl)) (jWr_56 _ (List.mem_of_getElem? (i := 4) rfl)) (jWr_56 _ (List.mem_of_getElem? (i := 5) rfl)) (jWr_1 _ (List.mem_of_getElem? (i := 5) rfl)) (jWr_56 _ (List.mem_of_getElem? (i := 6) rfl))) rfl rfl rfl (by decide +kernel) ⟨by rw [← hR]; exact Nat.le_of_ble_eq_true rfl, by rw [← hR]; exact Nat.le_of_ble_eq_true rfl⟩) ⟨fun a U g mk q => by obtain ⟨q0, q1, q2, qK, q10, q11, q12, q13, q14⟩ := q; exact ⟨q0, q1, q2, jG.calling g mk a qK, q10, q11, q12, q13, q14⟩, hh_7.recv (C := RX14) (T := TX14) (N := 74) hB16 rfl (by decide) hg_r0 hK, fun U hU hW => ⟨rfl, hU, hh_7.2.1, hG.step hW hU hh_7.1, hg_r0, hg_sort_6, (hh_7.2.2.1.sub (L1 := [(r0, 16, 17, .ref sort_6)]) [0] rfl), (hh_7.2.2.2.2.2.2.2.1.sub (L1 := [(sort_6, 117, 3100, ca 1, f_fs_7)]) [0] rfl), by first | omega | rfl | assumption | decide | exact Or.inl rfl | exact Or.inr rfl | (simp only; omega)⟩⟩ rfl rfl hl.1 rfl (lv_room (Nat.le_of_ble_eq_true rfl)) dX14_documentOf_2 ⟨Nat.zero_le _, Nat.zero_le _⟩) hh_7.1 (fun q _ h => h) (fun q h => h) (fun r_3 u_2 t_2 H_2 locs_2 ht_2 hvm_2 hr_3 hb_2 hz_2 hk_2 hS_2 => ?_)
  rw [ht_2] at hb_2
  obtain ⟨hb_21, hb_22, hb_23, hb_24, hb_25⟩ := hb_2
  have hh_2 : jSt (dC, dI) B base G0 G0 EX14_documentOfK s.heap 0 0 [(r0, 16, 17, .ref sort_6), (r0, 16, 41, .ref dd), (r0, 16, 42, .int dc), (r0, 16, 60, .ref co), (r0, 16, 61, .ref cs), (r0, 16, 46, .ref ol), (r0, 16, 47, .ref nw), (r0, 16, 71, .ref td)] [(sort_6, 117, 3100, ca 1, f_fs_7), (cs, 207, 2, ca 1, fs)] [(jFs, jDY dC dI ca G0 none sn), (jF9, jVl dC dI G0 9 ck), ([(201, 0)], jQc dC dI (ca 4) dd 3 fd), ([(208, 0)], jQc dC dI (ca 4) co 2 fo)] H_2 locs_2 := ((hh_7.call hb_21 hb_22 hb_23 hb_24 hS_2 rfl (L1 := [(r0, 16, 17, .ref sort_6), (r0, 16, 41, .ref dd), (r0, 16, 42, .int dc), (r0, 16, 60, .ref co), (r0, 16, 61, .ref cs), (r0, 16, 46, .ref ol), (r0, 16, 47, .ref nw), (r0, 16, 71, .ref td)]) [0, 1, 2, 3, 4, 5, 6, 7] rfl rfl (M1 := [(sort_6, 117, 3100, ca 1, f_fs_7), (cs, 207, 2, ca 1, fs)]) [0, 1] rfl rfl (I1 := [(jFs, jDY dC dI ca G0 none sn), (jF9, jVl dC dI G0 9 ck), ([(201, 0)], jQc dC dI (ca 4) dd 3 fd), ([(208, 0)], jQc dC dI (ca 4) co 2 fo)]) [0, 1, 2, 3] rfl rfl).more hb_25)
  clear hh_7 ht_2 hvm_2 hz_2 hk_2 hS_2 hb_21 hb_22 hb_23 hb_24 hb_25
  obtain ⟨hr_3b, hr_3p⟩ := hr_3
  obtain ⟨hr_3p_0, hr_3p_1, hr_3p_2⟩ := hr_3p
  have hr_3' := jb_01 hr_3b
  refine lv_if_ne (tgt := 10) hx hb dX14_documentOf_5 (by decide) (fun c_8 => ?_) (fun c_8 => ?_)
  · skip
    have c_8' : r_3.toInt ≠ 0 := jb_ne (rfl) ((by decide)) c_8
    have hs0 := (hr_3p_2 (by omega)).1
    refine lv_iconst (v := 0) hx hb dX14_documentOf_10 (by decide) ?_
    refine lv_istore_n (lv' := [(2, .int 0), (0, .ref r0), (1, .int a1)]) hx hb dX14_documentOf_11 rfl hl (by decide) rfl (fun ls hl => ?_)
    have L12 : ∀ (N : Nat) (v2_9 : Int32) (H_9 : Heap) (locs_9 : List Loc), jSt (dC, dI) B base G0 G0 EX14_documentOfK s.heap 0 0 [(r0, 16, 17, .ref sort_6), (r0, 16, 41, .ref dd), (r0, 16, 42, .int dc), (r0, 16, 60, .ref co), (r0, 16, 61, .ref cs), (r0, 16, 46, .ref ol), (r0, 16, 47, .ref nw), (r0, 16, 71, .ref td)] [(sort_6, 117, 3100, ca 1, f_fs_7), (cs, 207, 2, ca 1, fs)] [(jFs, jDY dC dI ca G0 none sn), (jF9, jVl dC dI G0 9 ck), ([(201, 0)], jQc dC dI (ca 4) dd 3 fd), ([(208, 0)], jQc dC dI (ca 4) co 2 fo)] H_9 locs_9 → (0 ≤ v2_9.toInt ∧ v2_9.toInt ≤ dc.toInt) → (dc.toInt - v2_9.toInt : Int) < N → ∀ ls : Array Slot, lv_has ls 6 [(0, .ref r0), (1, .int a1), (2, .int v2_9)] → W p l e R s m ([.ref r0, .int a1] : List Value).toArray below meth c H_9 locs_9 0 0 Q (F0 m 12 ls []) := by
      intro N
      induction N with
      | zero => intro v2_9 H_9 locs_9 hh_9  hi_9 hm; exact absurd hm (by omega)
      | succ N L12 =>
        intro v2_9 H_9 locs_9 hh_9  hi_9 hm_9 ls hl
        obtain ⟨hi_9_0, hi_9_1⟩ := hi_9
        refine lv_iload_n hx hb dX14_documentOf_12 rfl (lv_at hl 2 rfl) ?_
        refine lv_aload_n hx hb dX14_documentOf_13 rfl (lv_at hl 0 rfl) ?_
        refine j7_read hx hb hown hK (C := RX14) (T := TX14) (N := 74) rfl hly_16_42 hlk_505 (hh_9.at 2 rfl) dX14_documentOf_14 ?_
        refine lv_icmp_ge (tgt := 121) hx hb dX14_documentOf_17 (by decide) (fun c_10 => ?_) (fun c_10 => ?_)
        · skip
          have c_10' : v2_9.toInt ≥ dc.toInt := jb_ge (rfl) (rfl) c_10
          refine lv_null hx hb dX14_documentOf_121 ?_
          rw [hQ]
          exact W.aret (v := .null) hx hb hr (Or.inl ⟨_, rfl⟩) (Or.inl rfl) (fun t ht hW => ⟨⟨.null, (), rfl, Or.inl rfl, hh_9.rt (M1 := []) [] rfl ht⟩, by rw [ht]; try exact hh_9.1.1, fun q h9 hq => by rw [ht]; try exact hh_9.1.2.1 q h9 hq⟩) hh_9.1.2.2 dX14_documentOf_122
        · skip
          have c_10' : v2_9.toInt < dc.toInt := jb_ge_n (rfl) (rfl) c_10
          refine lv_aload_n hx hb dX14_documentOf_20 rfl (lv_at hl 0 rfl) ?_
          refine j7_read hx hb hown hK (C := RX14) (T := TX14) (N := 74) rfl hly_16_41 hlk_74 (hh_9.at 1 rfl) dX14_documentOf_21 ?_
          refine lv_iload_n hx hb dX14_documentOf_24 rfl (lv_at hl 2 rfl) ?_
          refine j7_qaldI hx hb hK2 hh_9 hB201 0 rfl (by decide) hg_dd (x := v2_9.toInt) (rfl) (by omega) (hh_9.iv 2 rfl) dX14_documentOf_25 (fun o_11 ho_11 heo_11 => ?_)
          obtain ⟨el_12, rfl, hg_el_12⟩ := ho_11
          simp only [va_rf]
          refine lv_astore_n (lv' := [(3, .ref el_12), (0, .ref r0), (1, .int a1), (2, .int v2_9)]) hx hb dX14_documentOf_26 rfl hl (by decide) rfl (fun ls hl => ?_)
          refine lv_aload_n hx hb dX14_documentOf_27 rfl (lv_at hl 0 rfl) ?_
          obtain ⟨v_13, hv_13, hh_14⟩ := hh_9.pin (C := RX12) (T := TX12) (N := 11) hB14 rfl (by decide) hg_el_12 (i := 1) (by decide) rfl
          clear hh_9
          obtain ⟨uriLength_15, rfl, hlouriLength_15, hhiuriLength_15⟩ := hv_13
          refine j7_readN hx hb hown hK (C := RX12) (T := TX12) (N := 11) rfl hly_14_1 hlk_508 (hh_14.at 0 rfl) dX14_documentOf_28 ?_
          refine lv_aload_n hx hb dX14_documentOf_31 rfl (lv_at hl 1 rfl) ?_
          obtain ⟨v_16, hv_16, hh_17⟩ := hh_14.pin (C := RX14) (T := TX14) (N := 74) hB16 rfl (by decide) hg_r0 (i := 23) (by decide) rfl
          clear hh_14
          obtain ⟨to_18, rfl, hg_to_18⟩ := hv_16
          refine j7_read hx hb hown hK (C := RX14) (T := TX14) (N := 74) rfl hly_16_23 hlk_55 (hh_17.at 0 rfl) dX14_documentOf_32 ?_
          refine lv_iload_n hx hb dX14_documentOf_35 rfl (lv_at hl 2 rfl) ?_
          refine j7_iald hx hb hK hh_17 hB123 1 rfl (by decide) hg_to_18 (x := a1.toInt) (rfl) (by omega) dX14_documentOf_36 (fun z_19 (hz_19 : 0 ≤ z_19.toInt ∧ z_19.toInt ≤ 3100) => ?_)
          refine lv_aload_n hx hb dX14_documentOf_37 rfl (lv_at hl 1 rfl) ?_
          obtain ⟨v_20, hv_20, hh_21⟩ := hh_17.pin (C := RX14) (T := TX14) (N := 74) hB16 rfl (by decide) hg_r0 (i := 22) (by decide) rfl
          clear hh_17
          obtain ⟨from_22, rfl, hg_from_22⟩ := hv_20
          refine j7_read hx hb hown hK (C := RX14) (T := TX14) (N := 74) rfl hly_16_22 hlk_52 (hh_21.at 0 rfl) dX14_documentOf_38 ?_
          refine lv_iload_n hx hb dX14_documentOf_41 rfl (lv_at hl 2 rfl) ?_
          refine j7_iald hx hb hK hh_21 hB122 1 rfl (by decide) hg_from_22 (x := a1.toInt) (rfl) (by omega) dX14_documentOf_42 (fun z_23 (hz_23 : 0 ≤ z_23.toInt ∧ z_23.toInt ≤ 3100) => ?_)
          refine lv_isub hx hb dX14_documentOf_43 ?_
          refine lv_topi (fun z_24 ez_24 => ?_)
          have hz_24 : z_24.toInt = z_19.toInt - z_23.toInt := by rw [ez_24]; exact jb_isub2 (rfl) (rfl) (by omega)
          have C52 : ∀ (w0_25 : Int32) (H_25 : Heap) (locs_25 : List Loc), jSt (dC, dI) B base G0 G0 EX14_documentOfK s.heap 0 0 [(r0, 16, 22, .ref from_22), (r0, 16, 23, .ref to_18), (el_12, 14, 1, .int uriLength_15), (r0, 16, 17, .ref sort_6), (r0, 16, 41, .ref dd), (r0, 16, 42, .int dc), (r0, 16, 60, .ref co), (r0, 16, 61, .ref cs), (r0, 16, 46, .ref ol), (r0, 16, 47, .ref nw), (r0, 16, 71, .ref td)] [(sort_6, 117, 3100, ca 1, f_fs_7), (cs, 207, 2, ca 1, fs)] [(jFs, jDY dC dI ca G0 none sn), (jF9, jVl dC dI G0 9 ck), ([(201, 0)], jQc dC dI (ca 4) dd 3 fd), ([(208, 0)], jQc dC dI (ca 4) co 2 fo)] H_25 locs_25 → (w0_25 = 0 ∨ w0_25 = 1) → (True) → ∀ ls : Array Slot, lv_has ls 6 [(0, .ref r0), (1, .int a1), (2, .int v2_9), (3, .ref el_12)] → W p l e R s m ([.ref r0, .int a1] : List Value).toArray below meth c H_25 locs_25 0 0 Q (F0 m 52 ls [.int w0_25]) := by
            intro w0_25 H_25 locs_25 hh_25 hb_w0_25 hi_25 ls hl
            have hb_w0_25' := jb_01 hb_w0_25
            refine lv_istore (lv' := [(4, .int w0_25), (0, .ref r0), (1, .int a1), (2, .int v2_9), (3, .ref el_12)]) hx hb dX14_documentOf_52 hl (by decide) rfl (fun ls hl => ?_)
            refine lv_iconst (v := 0) hx hb dX14_documentOf_54 (by decide) ?_
            refine lv_istore (lv' := [(5, .int 0), (4, .int w0_25), (0, .ref r0), (1, .int a1), (2, .int v2_9), (3, .ref el_12)]) hx hb dX14_documentOf_55 hl (by decide) rfl (fun ls hl => ?_)
            have L57 : ∀ (N : Nat) (v4_26 : Int32) (v5_26 : Int32) (H_26 : Heap) (locs_26 : List Loc), jSt (dC, dI) B base G0 G0 EX14_documentOfK s.heap 0 0 [(r0, 16, 22, .ref from_22), (r0, 16, 23, .ref to_18), (el_12, 14, 1, .int uriLength_15), (r0, 16, 17, .ref sort_6), (r0, 16, 41, .ref dd), (r0, 16, 42, .int dc), (r0, 16, 60, .ref co), (r0, 16, 61, .ref cs), (r0, 16, 46, .ref ol), (r0, 16, 47, .ref nw), (r0, 16, 71, .ref td)] [(sort_6, 117, 3100, ca 1, f_fs_7), (cs, 207, 2, ca 1, fs)] [(jFs, jDY dC dI ca G0 none sn), (jF9, jVl dC dI G0 9 ck), ([(201, 0)], jQc dC dI (ca 4) dd 3 fd), ([(208, 0)], jQc dC dI (ca 4) co 2 fo)] H_26 locs_26 → (v4_26 = 0 ∨ v4_26 = 1) → (0 ≤ v5_26.toInt ∧ v5_26.toInt ≤ 40) → (40 - v5_26.toInt : Int) < N → ∀ ls : Array Slot, lv_has ls 6 [(0, .ref r0), (1, .int a1), (2, .int v2_9), (3, .ref el_12), (4, .int v4_26), (5, .int v5_26)] → W p l e R s m ([.ref r0, .int a1] : List Value).toArray below meth c H_26 locs_26 0 0 Q (F0 m 57 ls []) := by
              intro N
              induction N with
              | zero => intro v4_26 v5_26 H_26 locs_26 hh_26 hb_v4_26 hi_26 hm; exact absurd hm (by omega)
              | succ N L57 =>
                intro v4_26 v5_26 H_26 locs_26 hh_26 hb_v4_26 hi_26 hm_26 ls hl
                obtain ⟨hi_26_0, hi_26_1⟩ := hi_26
                have hb_v4_26' := jb_01 hb_v4_26
                refine lv_iload hx hb dX14_documentOf_57 (lv_at hl 5 rfl) ?_
                refine lv_aload_n hx hb dX14_documentOf_59 rfl (lv_at hl 3 rfl) ?_
                refine j7_readN hx hb hown hK (C := RX12) (T := TX12) (N := 11) rfl hly_14_1 hlk_508 (hh_26.at 2 rfl) dX14_documentOf_60 ?_
                refine lv_icmp_ge (tgt := 108) hx hb dX14_documentOf_63 (by decide) (fun c_27 => ?_) (fun c_27 => ?_)
                · skip
                  have c_27' : v5_26.toInt ≥ uriLength_15.toInt := jb_ge (rfl) (rfl) c_27
                  refine lv_iload hx hb dX14_documentOf_108 (lv_at hl 4 rfl) ?_
                  refine lv_if_eq (tgt := 115) hx hb dX14_documentOf_110 (by decide) (fun c_28 => ?_) (fun c_28 => ?_)
                  · skip
                    have c_28' : v4_26.toInt = 0 := jb_eq (rfl) ((by decide)) c_28
                    obtain ⟨z_29, ez_29⟩ : ∃ y : Int32, y = v2_9 + 1 := ⟨_, rfl⟩
                    refine lv_iinc (v := z_29) (lv' := [(2, .int z_29), (0, .ref r0), (1, .int a1), (3, .ref el_12), (4, .int v4_26), (5, .int v5_26)]) hx hb dX14_documentOf_115 hl (k := 2) rfl (by rw [ez_29]; rfl) (by decide) rfl (fun ls hl => ?_)
                    have hz_29 : z_29.toInt = v2_9.toInt + 1 := by rw [ez_29]; exact jb_iadd2 (rfl) (by decide) (by omega)
                    refine lv_goto (tgt := 12) hx hb dX14_documentOf_118 (by decide) ?_
                    exact L12 z_29 _ _ (hh_26.sub (L1 := [(r0, 16, 17, .ref sort_6), (r0, 16, 41, .ref dd), (r0, 16, 42, .int dc), (r0, 16, 60, .ref co), (r0, 16, 61, .ref cs), (r0, 16, 46, .ref ol), (r0, 16, 47, .ref nw), (r0, 16, 71, .ref td)]) [3, 4, 5, 6, 7, 8, 9, 10] rfl (M1 := [(sort_6, 117, 3100, ca 1, f_fs_7), (cs, 207, 2, ca 1, fs)]) [0, 1] rfl (I1 := [(jFs, jDY dC dI ca G0 none sn), (jF9, jVl dC dI G0 9 ck), ([(201, 0)], jQc dC dI (ca 4) dd 3 fd), ([(208, 0)], jQc dC dI (ca 4) co 2 fo)]) [0, 1, 2, 3] rfl) (by first | omega | (refine ⟨?_, ?_⟩ <;> (first | omega | rfl | assumption | decide | exact Or.inl rfl | exact Or.inr rfl | (simp only; omega)))) (by omega) _ (lv_sub hl [1, 2, 0] rfl)
                  · skip
                    have c_28' : v4_26.toInt ≠ 0 := jb_eq_n (rfl) ((by decide)) c_28
                    refine lv_aload_n hx hb dX14_documentOf_113 rfl (lv_at hl 3 rfl) ?_
                    rw [hQ]
                    exact W.aret (v := .ref el_12) hx hb hr (Or.inl ⟨_, rfl⟩) (Or.inr ⟨_, rfl⟩) (fun t ht hW => ⟨⟨.ref el_12, (), rfl, Or.inr ⟨_, rfl, hg_el_12, ⟨v2_9.toInt.toNat, by omega, by omega, heo_11.symm⟩⟩, hh_26.rt (M1 := []) [] rfl ht⟩, by rw [ht]; try exact hh_26.1.1, fun q h9 hq => by rw [ht]; try exact hh_26.1.2.1 q h9 hq⟩) hh_26.1.2.2 dX14_documentOf_114
                · skip
                  have c_27' : v5_26.toInt < uriLength_15.toInt := jb_ge_n (rfl) (rfl) c_27
                  refine lv_iload hx hb dX14_documentOf_66 (lv_at hl 4 rfl) ?_
                  refine lv_if_eq (tgt := 108) hx hb dX14_documentOf_68 (by decide) (fun c_30 => ?_) (fun c_30 => ?_)
                  · skip
                    have c_30' : v4_26.toInt = 0 := jb_eq (rfl) ((by decide)) c_30
                    refine lv_iload hx hb dX14_documentOf_108 (lv_at hl 4 rfl) ?_
                    refine lv_if_eq (tgt := 115) hx hb dX14_documentOf_110 (by decide) (fun c_31 => ?_) (fun c_31 => ?_)
                    · skip
                      have c_31' : v4_26.toInt = 0 := jb_eq (rfl) ((by decide)) c_31
                      obtain ⟨z_32, ez_32⟩ : ∃ y : Int32, y = v2_9 + 1 := ⟨_, rfl⟩
                      refine lv_iinc (v := z_32) (lv' := [(2, .int z_32), (0, .ref r0), (1, .int a1), (3, .ref el_12), (4, .int v4_26), (5, .int v5_26)]) hx hb dX14_documentOf_115 hl (k := 2) rfl (by rw [ez_32]; rfl) (by decide) rfl (fun ls hl => ?_)
                      have hz_32 : z_32.toInt = v2_9.toInt + 1 := by rw [ez_32]; exact jb_iadd2 (rfl) (by decide) (by omega)
                      refine lv_goto (tgt := 12) hx hb dX14_documentOf_118 (by decide) ?_
                      exact L12 z_32 _ _ (hh_26.sub (L1 := [(r0, 16, 17, .ref sort_6), (r0, 16, 41, .ref dd), (r0, 16, 42, .int dc), (r0, 16, 60, .ref co), (r0, 16, 61, .ref cs), (r0, 16, 46, .ref ol), (r0, 16, 47, .ref nw), (r0, 16, 71, .ref td)]) [3, 4, 5, 6, 7, 8, 9, 10] rfl (M1 := [(sort_6, 117, 3100, ca 1, f_fs_7), (cs, 207, 2, ca 1, fs)]) [0, 1] rfl (I1 := [(jFs, jDY dC dI ca G0 none sn), (jF9, jVl dC dI G0 9 ck), ([(201, 0)], jQc dC dI (ca 4) dd 3 fd), ([(208, 0)], jQc dC dI (ca 4) co 2 fo)]) [0, 1, 2, 3] rfl) (by first | omega | (refine ⟨?_, ?_⟩ <;> (first | omega | rfl | assumption | decide | exact Or.inl rfl | exact Or.inr rfl | (simp only; omega)))) (by omega) _ (lv_sub hl [1, 2, 0] rfl)
                    · skip
                      have c_31' : v4_26.toInt ≠ 0 := jb_eq_n (rfl) ((by decide)) c_31
                      exact (by omega : False).elim
                  · skip
                    have c_30' : v4_26.toInt ≠ 0 := jb_eq_n (rfl) ((by decide)) c_30
                    refine lv_aload_n hx hb dX14_documentOf_71 rfl (lv_at hl 3 rfl) ?_
                    obtain ⟨v_33, hv_33, hh_34⟩ := hh_26.pin (C := RX12) (T := TX12) (N := 11) hB14 rfl (by decide) hg_el_12 (i := 0) (by decide) rfl
                    clear hh_26
                    obtain ⟨uri_35, rfl, hg_uri_35⟩ := hv_33
                    refine j7_readN hx hb hown hK (C := RX12) (T := TX12) (N := 11) rfl hly_14_0 hlk_511 (hh_34.at 0 rfl) dX14_documentOf_72 ?_
                    refine lv_iload hx hb dX14_documentOf_75 (lv_at hl 5 rfl) ?_
                    refine j7_iald hx hb hK hh_34 hB195 1 rfl (by decide) hg_uri_35 (x := v5_26.toInt) (rfl) (by omega) dX14_documentOf_77 (fun z_36 (hz_36 : True) => ?_)
                    refine lv_aload_n hx hb dX14_documentOf_78 rfl (lv_at hl 0 rfl) ?_
                    obtain ⟨v_37, hv_37, hh_38⟩ := hh_34.pin (C := RX14) (T := TX14) (N := 74) hB16 rfl (by decide) hg_r0 (i := 27) (by decide) rfl
                    clear hh_34
                    obtain ⟨pool_39, rfl, hg_pool_39⟩ := hv_37
                    refine j7_read hx hb hown hK (C := RX14) (T := TX14) (N := 74) rfl hly_16_27 hlk_65 (hh_38.at 0 rfl) dX14_documentOf_79 ?_
                    refine lv_aload_n hx hb dX14_documentOf_82 rfl (lv_at hl 0 rfl) ?_
                    refine j7_read hx hb hown hK (C := RX14) (T := TX14) (N := 74) rfl hly_16_22 hlk_52 (hh_38.at 2 rfl) dX14_documentOf_83 ?_
                    refine lv_iload_n hx hb dX14_documentOf_86 rfl (lv_at hl 1 rfl) ?_
                    refine j7_iald hx hb hK hh_38 hB122 1 rfl (by decide) hg_from_22 (x := a1.toInt) (rfl) (by omega) dX14_documentOf_87 (fun z_40 (hz_40 : 0 ≤ z_40.toInt ∧ z_40.toInt ≤ 3100) => ?_)
                    refine lv_iload hx hb dX14_documentOf_88 (lv_at hl 5 rfl) ?_
                    refine lv_iadd hx hb dX14_documentOf_90 ?_
                    refine lv_topi (fun z_41 ez_41 => ?_)
                    have hz_41 : z_41.toInt = z_40.toInt + v5_26.toInt := by rw [ez_41]; exact jb_iadd2 (rfl) (rfl) (by omega)
                    refine j7_iald hx hb hK hh_38 hB127 1 rfl (by decide) hg_pool_39 (x := z_41.toInt) (rfl) (by omega) dX14_documentOf_91 (fun z_42 (hz_42 : True) => ?_)
                    refine lv_icmp_ne (tgt := 99) hx hb dX14_documentOf_92 (by decide) (fun c_43 => ?_) (fun c_43 => ?_)
                    · skip
                      have c_43' : z_36.toInt ≠ z_42.toInt := jb_ne (rfl) (rfl) c_43
                      refine lv_iconst (v := 0) hx hb dX14_documentOf_99 (by decide) ?_
                      refine lv_istore (lv' := [(4, .int 0), (0, .ref r0), (1, .int a1), (2, .int v2_9), (3, .ref el_12), (5, .int v5_26)]) hx hb dX14_documentOf_100 hl (by decide) rfl (fun ls hl => ?_)
                      obtain ⟨z_44, ez_44⟩ : ∃ y : Int32, y = v5_26 + 1 := ⟨_, rfl⟩
                      refine lv_iinc (v := z_44) (lv' := [(5, .int z_44), (4, .int 0), (0, .ref r0), (1, .int a1), (2, .int v2_9), (3, .ref el_12)]) hx hb dX14_documentOf_102 hl (k := 5) rfl (by rw [ez_44]; rfl) (by decide) rfl (fun ls hl => ?_)
                      have hz_44 : z_44.toInt = v5_26.toInt + 1 := by rw [ez_44]; exact jb_iadd2 (rfl) (by decide) (by omega)
                      refine lv_goto (tgt := 57) hx hb dX14_documentOf_105 (by decide) ?_
                      exact L57 0 z_44 _ _ (hh_38.sub (L1 := [(r0, 16, 22, .ref from_22), (r0, 16, 23, .ref to_18), (el_12, 14, 1, .int uriLength_15), (r0, 16, 17, .ref sort_6), (r0, 16, 41, .ref dd), (r0, 16, 42, .int dc), (r0, 16, 60, .ref co), (r0, 16, 61, .ref cs), (r0, 16, 46, .ref ol), (r0, 16, 47, .ref nw), (r0, 16, 71, .ref td)]) [2, 3, 4, 5, 6, 7, 8, 9, 10, 11, 12] rfl (M1 := [(sort_6, 117, 3100, ca 1, f_fs_7), (cs, 207, 2, ca 1, fs)]) [0, 1] rfl (I1 := [(jFs, jDY dC dI ca G0 none sn), (jF9, jVl dC dI G0 9 ck), ([(201, 0)], jQc dC dI (ca 4) dd 3 fd), ([(208, 0)], jQc dC dI (ca 4) co 2 fo)]) [0, 1, 2, 3] rfl) (Or.inl rfl) (by first | omega | (refine ⟨?_, ?_⟩ <;> (first | omega | rfl | assumption | decide | exact Or.inl rfl | exact Or.inr rfl | (simp only; omega)))) (by omega) _ (lv_sub hl [2, 3, 4, 5, 1, 0] rfl)
                    · skip
                      have c_43' : z_36.toInt = z_42.toInt := jb_ne_n (rfl) (rfl) c_43
                      refine lv_iconst (v := 1) hx hb dX14_documentOf_95 (by decide) ?_
                      refine lv_goto (tgt := 100) hx hb dX14_documentOf_96 (by decide) ?_
                      refine lv_istore (lv' := [(4, .int 1), (0, .ref r0), (1, .int a1), (2, .int v2_9), (3, .ref el_12), (5, .int v5_26)]) hx hb dX14_documentOf_100 hl (by decide) rfl (fun ls hl => ?_)
                      obtain ⟨z_45, ez_45⟩ : ∃ y : Int32, y = v5_26 + 1 := ⟨_, rfl⟩
                      refine lv_iinc (v := z_45) (lv' := [(5, .int z_45), (4, .int 1), (0, .ref r0), (1, .int a1), (2, .int v2_9), (3, .ref el_12)]) hx hb dX14_documentOf_102 hl (k := 5) rfl (by rw [ez_45]; rfl) (by decide) rfl (fun ls hl => ?_)
                      have hz_45 : z_45.toInt = v5_26.toInt + 1 := by rw [ez_45]; exact jb_iadd2 (rfl) (by decide) (by omega)
                      refine lv_goto (tgt := 57) hx hb dX14_documentOf_105 (by decide) ?_
                      exact L57 1 z_45 _ _ (hh_38.sub (L1 := [(r0, 16, 22, .ref from_22), (r0, 16, 23, .ref to_18), (el_12, 14, 1, .int uriLength_15), (r0, 16, 17, .ref sort_6), (r0, 16, 41, .ref dd), (r0, 16, 42, .int dc), (r0, 16, 60, .ref co), (r0, 16, 61, .ref cs), (r0, 16, 46, .ref ol), (r0, 16, 47, .ref nw), (r0, 16, 71, .ref td)]) [2, 3, 4, 5, 6, 7, 8, 9, 10, 11, 12] rfl (M1 := [(sort_6, 117, 3100, ca 1, f_fs_7), (cs, 207, 2, ca 1, fs)]) [0, 1] rfl (I1 := [(jFs, jDY dC dI ca G0 none sn), (jF9, jVl dC dI G0 9 ck), ([(201, 0)], jQc dC dI (ca 4) dd 3 fd), ([(208, 0)], jQc dC dI (ca 4) co 2 fo)]) [0, 1, 2, 3] rfl) (Or.inr rfl) (by first | omega | (refine ⟨?_, ?_⟩ <;> (first | omega | rfl | assumption | decide | exact Or.inl rfl | exact Or.inr rfl | (simp only; omega)))) (by omega) _ (lv_sub hl [2, 3, 4, 5, 1, 0] rfl)
            exact L57 (40 - (0 : Int32).toInt : Int).toNat.succ w0_25 0 _ _ hh_25 (hb_w0_25) (by first | omega | (refine ⟨?_, ?_⟩ <;> (first | omega | rfl | assumption | decide | exact Or.inl rfl | exact Or.inr rfl | (simp only; omega)))) (by omega) _ (lv_sub hl [2, 3, 4, 5, 1, 0] rfl)
          refine lv_icmp_ne (tgt := 51) hx hb dX14_documentOf_44 (by decide) (fun c_46 => ?_) (fun c_46 => ?_)
          · skip
            have c_46' : uriLength_15.toInt ≠ z_24.toInt := jb_ne (rfl) (rfl) c_46
            refine lv_iconst (v := 0) hx hb dX14_documentOf_51 (by decide) ?_
            exact C52 0 _ _ hh_21 (Or.inl rfl) (trivial) _ (lv_sub hl [1, 2, 3, 0] rfl)
          · skip
            have c_46' : uriLength_15.toInt = z_24.toInt := jb_ne_n (rfl) (rfl) c_46
            refine lv_iconst (v := 1) hx hb dX14_documentOf_47 (by decide) ?_
            refine lv_goto (tgt := 52) hx hb dX14_documentOf_48 (by decide) ?_
            exact C52 1 _ _ hh_21 (Or.inr rfl) (trivial) _ (lv_sub hl [1, 2, 3, 0] rfl)
    exact L12 (dc.toInt - (0 : Int32).toInt : Int).toNat.succ 0 _ _ hh_2 (by first | omega | (refine ⟨?_, ?_⟩ <;> (first | omega | rfl | assumption | decide | exact Or.inl rfl | exact Or.inr rfl | (simp only; omega)))) (by omega) _ (lv_sub hl [1, 2, 0] rfl)
  · skip
    have c_8' : r_3.toInt = 0 := jb_ne_n (rfl) ((by decide)) c_8
    refine lv_null hx hb dX14_documentOf_8 ?_
    rw [hQ]
    exact W.aret (v := .null) hx hb hr (Or.inl ⟨_, rfl⟩) (Or.inl rfl) (fun t ht hW => ⟨⟨.null, (), rfl, Or.inl rfl, hh_2.rt (M1 := []) [] rfl ht⟩, by rw [ht]; try exact hh_2.1.1, fun q h9 hq => by rw [ht]; try exact hh_2.1.2.1 q h9 hq⟩) hh_2.1.2.2 dX14_documentOf_9
end
section
theorem dX14_askGoals_0 : decode cX14_askGoals 0 = .ok (.aload_n 0, 1) := by decide +kernel
theorem dX14_askGoals_1 : decode cX14_askGoals 1 = .ok (.aload_n 0, 1) := by decide +kernel
theorem dX14_askGoals_2 : decode cX14_askGoals 2 = .ok (.aload_n 0, 1) := by decide +kernel
theorem dX14_askGoals_3 : decode cX14_askGoals 3 = .ok (.iload_n 1, 1) := by decide +kernel
theorem dX14_askGoals_4 : decode cX14_askGoals 4 = .ok (.ldc_w 514, 3) := by decide +kernel
theorem dX14_askGoals_7 : decode cX14_askGoals 7 = .ok (.invokevirtual 430, 3) := by decide +kernel
theorem dX14_askGoals_10 : decode cX14_askGoals 10 = .ok (.ldc_w 516, 3) := by decide +kernel
theorem dX14_askGoals_13 : decode cX14_askGoals 13 = .ok (.invokevirtual 430, 3) := by decide +kernel
theorem dX14_askGoals_16 : decode cX14_askGoals 16 = .ok (.invokevirtual 520, 3) := by decide +kernel
theorem dX14_askGoals_19 : decode cX14_askGoals 19 = .ok (.astore_n 2, 1) := by decide +kernel
theorem dX14_askGoals_20 : decode cX14_askGoals 20 = .ok (.aload_n 0, 1) := by decide +kernel
theorem dX14_askGoals_21 : decode cX14_askGoals 21 = .ok (.iload_n 1, 1) := by decide +kernel
theorem dX14_askGoals_22 : decode cX14_askGoals 22 = .ok (.ldc_w 695, 3) := by decide +kernel
theorem dX14_askGoals_25 : decode cX14_askGoals 25 = .ok (.invokevirtual 430, 3) := by decide +kernel
theorem dX14_askGoals_28 : decode cX14_askGoals 28 = .ok (.istore_n 3, 1) := by decide +kernel
theorem dX14_askGoals_29 : decode cX14_askGoals 29 = .ok (.aload_n 2, 1) := by decide +kernel
theorem dX14_askGoals_30 : decode cX14_askGoals 30 = .ok (.ifnull 35, 3) := by decide +kernel
theorem dX14_askGoals_33 : decode cX14_askGoals 33 = .ok (.aload_n 0, 1) := by decide +kernel
theorem dX14_askGoals_34 : decode cX14_askGoals 34 = .ok (.iload_n 3, 1) := by decide +kernel
theorem dX14_askGoals_35 : decode cX14_askGoals 35 = .ok (.invokevirtual 566, 3) := by decide +kernel
theorem dX14_askGoals_38 : decode cX14_askGoals 38 = .ok (.ifCond .eq 27, 3) := by decide +kernel
theorem dX14_askGoals_41 : decode cX14_askGoals 41 = .ok (.aload_n 2, 1) := by decide +kernel
theorem dX14_askGoals_42 : decode cX14_askGoals 42 = .ok (.getfield 529, 3) := by decide +kernel
theorem dX14_askGoals_45 : decode cX14_askGoals 45 = .ok (.aload_n 2, 1) := by decide +kernel
theorem dX14_askGoals_46 : decode cX14_askGoals 46 = .ok (.getfield 526, 3) := by decide +kernel
theorem dX14_askGoals_49 : decode cX14_askGoals 49 = .ok (.aload_n 0, 1) := by decide +kernel
theorem dX14_askGoals_50 : decode cX14_askGoals 50 = .ok (.iload_n 3, 1) := by decide +kernel
theorem dX14_askGoals_51 : decode cX14_askGoals 51 = .ok (.invokevirtual 556, 3) := by decide +kernel
theorem dX14_askGoals_54 : decode cX14_askGoals 54 = .ok (.aload_n 0, 1) := by decide +kernel
theorem dX14_askGoals_55 : decode cX14_askGoals 55 = .ok (.iload_n 3, 1) := by decide +kernel
theorem dX14_askGoals_56 : decode cX14_askGoals 56 = .ok (.invokevirtual 559, 3) := by decide +kernel
theorem dX14_askGoals_59 : decode cX14_askGoals 59 = .ok (.invokestatic 562, 3) := by decide +kernel
theorem dX14_askGoals_62 : decode cX14_askGoals 62 = .ok (.goto 4, 3) := by decide +kernel
theorem dX14_askGoals_65 : decode cX14_askGoals 65 = .ok (.iconst (-1), 1) := by decide +kernel
theorem dX14_askGoals_66 : decode cX14_askGoals 66 = .ok (.istore 4, 2) := by decide +kernel
theorem dX14_askGoals_68 : decode cX14_askGoals 68 = .ok (.iload 4, 2) := by decide +kernel
theorem dX14_askGoals_70 : decode cX14_askGoals 70 = .ok (.ifCond .ge 11, 3) := by decide +kernel
theorem dX14_askGoals_73 : decode cX14_askGoals 73 = .ok (.aload_n 0, 1) := by decide +kernel
theorem dX14_askGoals_74 : decode cX14_askGoals 74 = .ok (.sipush (-32602), 3) := by decide +kernel
theorem dX14_askGoals_77 : decode cX14_askGoals 77 = .ok (.invokevirtual 425, 3) := by decide +kernel
theorem dX14_askGoals_80 : decode cX14_askGoals 80 = .ok (.return_, 1) := by decide +kernel
theorem dX14_askGoals_81 : decode cX14_askGoals 81 = .ok (.iconst 0, 1) := by decide +kernel
theorem dX14_askGoals_82 : decode cX14_askGoals 82 = .ok (.istore 5, 2) := by decide +kernel
theorem dX14_askGoals_84 : decode cX14_askGoals 84 = .ok (.iload 5, 2) := by decide +kernel
theorem dX14_askGoals_86 : decode cX14_askGoals 86 = .ok (.aload_n 2, 1) := by decide +kernel
theorem dX14_askGoals_87 : decode cX14_askGoals 87 = .ok (.getfield 587, 3) := by decide +kernel
theorem dX14_askGoals_90 : decode cX14_askGoals 90 = .ok (.if_icmp .ge 21, 3) := by decide +kernel
theorem dX14_askGoals_93 : decode cX14_askGoals 93 = .ok (.aload_n 2, 1) := by decide +kernel
theorem dX14_askGoals_94 : decode cX14_askGoals 94 = .ok (.getfield 594, 3) := by decide +kernel
theorem dX14_askGoals_97 : decode cX14_askGoals 97 = .ok (.iload 5, 2) := by decide +kernel
theorem dX14_askGoals_99 : decode cX14_askGoals 99 = .ok (.iaload, 1) := by decide +kernel
theorem dX14_askGoals_100 : decode cX14_askGoals 100 = .ok (.iload 4, 2) := by decide +kernel
theorem dX14_askGoals_102 : decode cX14_askGoals 102 = .ok (.if_icmp .gt 9, 3) := by decide +kernel
theorem dX14_askGoals_105 : decode cX14_askGoals 105 = .ok (.iinc 5 1, 3) := by decide +kernel
theorem dX14_askGoals_108 : decode cX14_askGoals 108 = .ok (.goto (-24), 3) := by decide +kernel
theorem dX14_askGoals_111 : decode cX14_askGoals 111 = .ok (.aload_n 2, 1) := by decide +kernel
theorem dX14_askGoals_112 : decode cX14_askGoals 112 = .ok (.getfield 531, 3) := by decide +kernel
theorem dX14_askGoals_115 : decode cX14_askGoals 115 = .ok (.iload 5, 2) := by decide +kernel
theorem dX14_askGoals_117 : decode cX14_askGoals 117 = .ok (.if_icmp .lt 25, 3) := by decide +kernel
theorem dX14_askGoals_120 : decode cX14_askGoals 120 = .ok (.aload_n 0, 1) := by decide +kernel
theorem dX14_askGoals_121 : decode cX14_askGoals 121 = .ok (.invokevirtual 466, 3) := by decide +kernel
theorem dX14_askGoals_124 : decode cX14_askGoals 124 = .ok (.aload_n 0, 1) := by decide +kernel
theorem dX14_askGoals_125 : decode cX14_askGoals 125 = .ok (.aload_n 2, 1) := by decide +kernel
theorem dX14_askGoals_126 : decode cX14_askGoals 126 = .ok (.iload 5, 2) := by decide +kernel
theorem dX14_askGoals_128 : decode cX14_askGoals 128 = .ok (.invokevirtual 697, 3) := by decide +kernel
theorem dX14_askGoals_131 : decode cX14_askGoals 131 = .ok (.aload_n 0, 1) := by decide +kernel
theorem dX14_askGoals_132 : decode cX14_askGoals 132 = .ok (.invokevirtual 700, 3) := by decide +kernel
theorem dX14_askGoals_135 : decode cX14_askGoals 135 = .ok (.aload_n 0, 1) := by decide +kernel
theorem dX14_askGoals_136 : decode cX14_askGoals 136 = .ok (.invokevirtual 422, 3) := by decide +kernel
theorem dX14_askGoals_139 : decode cX14_askGoals 139 = .ok (.goto 12, 3) := by decide +kernel
theorem dX14_askGoals_142 : decode cX14_askGoals 142 = .ok (.aload_n 0, 1) := by decide +kernel
theorem dX14_askGoals_143 : decode cX14_askGoals 143 = .ok (.aload_n 2, 1) := by decide +kernel
theorem dX14_askGoals_144 : decode cX14_askGoals 144 = .ok (.iconst 1, 1) := by decide +kernel
theorem dX14_askGoals_145 : decode cX14_askGoals 145 = .ok (.iload 5, 2) := by decide +kernel
theorem dX14_askGoals_147 : decode cX14_askGoals 147 = .ok (.invokevirtual 703, 3) := by decide +kernel
theorem dX14_askGoals_150 : decode cX14_askGoals 150 = .ok (.pop, 1) := by decide +kernel
theorem dX14_askGoals_151 : decode cX14_askGoals 151 = .ok (.return_, 1) := by decide +kernel
theorem dX14_cancel_0 : decode cX14_cancel 0 = .ok (.aload_n 0, 1) := by decide +kernel
theorem dX14_cancel_1 : decode cX14_cancel 1 = .ok (.iload_n 1, 1) := by decide +kernel
theorem dX14_cancel_2 : decode cX14_cancel 2 = .ok (.ldc_w 428, 3) := by decide +kernel
theorem dX14_cancel_5 : decode cX14_cancel 5 = .ok (.invokevirtual 430, 3) := by decide +kernel
theorem dX14_cancel_8 : decode cX14_cancel 8 = .ok (.istore_n 2, 1) := by decide +kernel
theorem dX14_cancel_9 : decode cX14_cancel 9 = .ok (.iload_n 2, 1) := by decide +kernel
theorem dX14_cancel_10 : decode cX14_cancel 10 = .ok (.ifCond .lt 11, 3) := by decide +kernel
theorem dX14_cancel_13 : decode cX14_cancel 13 = .ok (.aload_n 0, 1) := by decide +kernel
theorem dX14_cancel_14 : decode cX14_cancel 14 = .ok (.iload_n 2, 1) := by decide +kernel
theorem dX14_cancel_15 : decode cX14_cancel 15 = .ok (.invokevirtual 445, 3) := by decide +kernel
theorem dX14_cancel_18 : decode cX14_cancel 18 = .ok (.ifCond .ne 4, 3) := by decide +kernel
theorem dX14_cancel_21 : decode cX14_cancel 21 = .ok (.return_, 1) := by decide +kernel
theorem dX14_cancel_22 : decode cX14_cancel 22 = .ok (.iconst 0, 1) := by decide +kernel
theorem dX14_cancel_23 : decode cX14_cancel 23 = .ok (.istore_n 3, 1) := by decide +kernel
theorem dX14_cancel_24 : decode cX14_cancel 24 = .ok (.iload_n 3, 1) := by decide +kernel
theorem dX14_cancel_25 : decode cX14_cancel 25 = .ok (.aload_n 0, 1) := by decide +kernel
theorem dX14_cancel_26 : decode cX14_cancel 26 = .ok (.getfield 711, 3) := by decide +kernel
theorem dX14_cancel_29 : decode cX14_cancel 29 = .ok (.if_icmp .ge 34, 3) := by decide +kernel
theorem dX14_cancel_32 : decode cX14_cancel 32 = .ok (.aload_n 0, 1) := by decide +kernel
theorem dX14_cancel_33 : decode cX14_cancel 33 = .ok (.iload_n 3, 1) := by decide +kernel
theorem dX14_cancel_34 : decode cX14_cancel 34 = .ok (.iload_n 2, 1) := by decide +kernel
theorem dX14_cancel_35 : decode cX14_cancel 35 = .ok (.invokevirtual 714, 3) := by decide +kernel
theorem dX14_cancel_38 : decode cX14_cancel 38 = .ok (.ifCond .ne 6, 3) := by decide +kernel
theorem dX14_cancel_41 : decode cX14_cancel 41 = .ok (.goto 16, 3) := by decide +kernel
theorem dX14_cancel_44 : decode cX14_cancel 44 = .ok (.aload_n 0, 1) := by decide +kernel
theorem dX14_cancel_45 : decode cX14_cancel 45 = .ok (.iload_n 3, 1) := by decide +kernel
theorem dX14_cancel_46 : decode cX14_cancel 46 = .ok (.invokevirtual 718, 3) := by decide +kernel
theorem dX14_cancel_49 : decode cX14_cancel 49 = .ok (.aload_n 0, 1) := by decide +kernel
theorem dX14_cancel_50 : decode cX14_cancel 50 = .ok (.ldc_w 414, 3) := by decide +kernel
theorem dX14_cancel_53 : decode cX14_cancel 53 = .ok (.invokevirtual 425, 3) := by decide +kernel
theorem dX14_cancel_56 : decode cX14_cancel 56 = .ok (.return_, 1) := by decide +kernel
theorem dX14_cancel_57 : decode cX14_cancel 57 = .ok (.iinc 3 1, 3) := by decide +kernel
theorem dX14_cancel_60 : decode cX14_cancel 60 = .ok (.goto (-36), 3) := by decide +kernel
theorem dX14_cancel_63 : decode cX14_cancel 63 = .ok (.return_, 1) := by decide +kernel
def EX14_waitForK : List (Nat × Nat) := [(16, 3), (16, 4), (16, 6), (16, 48), (101, 0), (103, 0), (202, 0), (203, 0), (206, 0)]
set_option maxHeartbeats 4000000 in
set_option maxRecDepth 20000 in
theorem uX14_waitForK (l : Launch) (dC : Nat → ClassId) (dI : Nat → Nat → Nat) (ca : Nat → ClassId) (base : Nat) (B : jF) (hB : jBok B) (hAp : jAp (dC, dI)) (hB14 : ∀ n G a H, B 14 n G a H ↔ jOb (dC, dI) 14 11 (F14 n G) a H) (hB16 : ∀ n G a H, B 16 n G a H ↔ jOb (dC, dI) 16 74 (F16 n G) a H) (hB101 : ∀ n G a H, B 101 n G a H ↔ jAr (dC, dI) (ca 1) (fun j z => True) n a H) (hB103 : ∀ n G a H, B 103 n G a H ↔ jAr (dC, dI) (ca 3) (fun j z => (z = 0 ∨ z = 1)) n a H) (hB202 : ∀ n G a H, B 202 n G a H ↔ jAq (dC, dI) (ca 4) (jQn 14 0) n G a H) (hB203 : ∀ n G a H, B 203 n G a H ↔ jAr (dC, dI) (ca 1) (fun j z => -3300 ≤ z.toInt ∧ z.toInt ≤ 20) n a H) (hB206 : ∀ n G a H, B 206 n G a H ↔ jAr (dC, dI) (ca 1) (fun j z => 0 ≤ z.toInt ∧ z.toInt ≤ 40) n a H) (G0 : jT) (H0 : Heap) (r0 : Nat) (r1 : Nat) (a2 : Int32) (a3 : Int32) : Met l yX14_waitFor (jw yX14_waitFor cX14_waitFor 5 (some .boolean)) ({ frames := 15, cells := 0, slots := 0, locals := 526 }) (va_Pc [.ref r0, .ref r1, .int a2, .int a3] (fun U => U.heap = H0 ∧ jX B base G0 [] H0 ∧ jG dC dI ca base U ∧ jK2 dC dI ca U ∧ G0 r1 = some (14, 0) ∧ G0 r0 = some (16, 0) ∧ (a2 = 0 ∨ a2 = 1) ∧ jP (dC, dI) G0 H0 [] ∧ 0 ≤ a3.toInt ∧ a3.toInt ≤ 40)) (va_Qi (S := Int32) (fun r u => (r = 0 ∨ r = 1) ∧ (r.toInt = 0 ∨ (1 ≤ u.toInt ∧ u.toInt ≤ 12))) (fun u t => jRt (dC, dI) B base G0 EX14_waitForK H0 [(r0, 16, 48, .int u)] t.heap) (jA base)) 0 0 (jA base) := by
  refine Met.ofW (cc := cX14_waitFor) (maxL := 5) (ret := (some .boolean)) (by decide) rfl ?_
  intro p e s m args below meth c s₁ Bd hml hv
  obtain ⟨rfl, hH0, hX, hG, hK2, hg_r1, hg_r0, hz_a2, hP0, hp0, hp1⟩ := hv
  have hK := hG.1
  have hx := Bd.exec
  have hb := Bd.bytes
  have hr := Bd.returns
  have hts := atoms_spec (ws := (jw yX14_waitFor cX14_waitFor 5 (some .boolean))) Bd.pre
  have htw : ∀ w ∈ jWl, w.before _ s = true := fun w h => hts w (List.mem_cons_of_mem _ h)
  have hown : s.vm.findClass RX14 = some m.cls := findClass_of_methodNamed Bd.named
  have hlocks := Bd.notSynchronized
  obtain ⟨Q, hQ⟩ : ∃ Q, Q = MQ below (va_Qi (S := Int32) (fun r u => (r = 0 ∨ r = 1) ∧ (r.toInt = 0 ∨ (1 ≤ u.toInt ∧ u.toInt ≤ 12))) (fun u t => jRt (dC, dI) B base G0 EX14_waitForK H0 [(r0, 16, 48, .int u)] t.heap) (jA base)) ([.ref r0, .ref r1, .int a2, .int a3] : List Value).toArray s 0 0 (jA base) := ⟨_, rfl⟩
  rw [← hQ]
  have hl := lv_entry ([.ref r0, .ref r1, .int a2, .int a3]) (n := 5) (Nat.le_of_ble_eq_true rfl)
  rw [lg_entry_eq]
  generalize (lg_sl ([.ref r0, .ref r1, .int a2, .int a3]) ++ List.replicate (5 - (lg_sl ([.ref r0, .ref r1, .int a2, .int a3])).length) Slot.unset).toArray = ls at hl ⊢
  have hl : lv_has ls 5 [(0, .ref r0), (1, .ref r1), (2, .int a2), (3, .int a3)] := hl
  generalize hR : (headSpec (jw yX14_waitFor cX14_waitFor 5 (some .boolean)) ({ frames := 15, cells := 0, slots := 0, locals := 526 })).room = R
  subst hH0
  have hh : jSt (dC, dI) B base G0 G0 EX14_waitForK s.heap 0 0 [] [] [] s.heap [] := jSt.start hX hP0 jMc.nil jIs.nil
  clear hX hP0
  have hkm32600 : ((-32600) : Int32).toInt = (-32600) := by decide
  have hk0 : (0 : Int32).toInt = 0 := by decide
  have hk1 : (1 : Int32).toInt = 1 := by decide
  have hk12 : (12 : Int32).toInt = 12 := by decide
  have hk20 : (20 : Int32).toInt = 20 := by decide
  have hly_16_36 := htw (u_lay RX14 TX14 36) (jWc_wsX140 _ (u_in_lay (by decide)))
  have hly_16_37 := htw (u_lay RX14 TX14 37) (jWc_wsX140 _ (u_in_lay (by decide)))
  have hly_16_38 := htw (u_lay RX14 TX14 38) (jWc_wsX140 _ (u_in_lay (by decide)))
  have hly_16_39 := htw (u_lay RX14 TX14 39) (jWc_wsX140 _ (u_in_lay (by decide)))
  have hly_16_48 := htw (u_lay RX14 TX14 48) (jWc_wsX140 _ (u_in_lay (by decide)))
  have hly_16_49 := htw (u_lay RX14 TX14 49) (jWc_wsX140 _ (u_in_lay (by decide)))
  have hly_16_50 := htw (u_lay RX14 TX14 50) (jWc_wsX140 _ (u_in_lay (by decide)))
  have hly_16_51 := htw (u_lay RX14 TX14 51) (jWc_wsX140 _ (u_in_lay (by decide)))
  have hly_16_52 := htw (u_lay RX14 TX14 52) (jWc_wsX140 _ (u_in_lay (by decide)))
  have hly_16_53 := htw (u_lay RX14 TX14 53) (jWc_wsX140 _ (u_in_lay (by decide)))
  have hly_16_54 := htw (u_lay RX14 TX14 54) (jWc_wsX140 _ (u_in_lay (by decide)))
  have hly_16_55 := htw (u_lay RX14 TX14 55) (jWc_wsX140 _ (u_in_lay (by decide)))
  have hlk_711 := (htw (.fieldLink RX14 711 "ProofServerModel" "waits" "I") (jWr_58 _ (List.mem_of_getElem? (i := 11) rfl)))
  have hlk_91 := (htw (.fieldLink RX14 91 "ProofServerModel" "waitOf" "[LProofServerModel$Document;") (jWr_12 _ (List.mem_of_getElem? (i := 0) rfl)))
  have hlk_94 := (htw (.fieldLink RX14 94 "ProofServerModel" "waitGoals" "[Z") (jWr_12 _ (List.mem_of_getElem? (i := 1) rfl)))
  have hlk_97 := (htw (.fieldLink RX14 97 "ProofServerModel" "waitNeed" "[I") (jWr_12 _ (List.mem_of_getElem? (i := 2) rfl)))
  have hlk_100 := (htw (.fieldLink RX14 100 "ProofServerModel" "waitString" "[Z") (jWr_12 _ (List.mem_of_getElem? (i := 3) rfl)))
  have hlk_377 := (htw (.fieldLink RX14 377 "ProofServerModel" "idString" "Z") (jWr_53 _ (List.mem_of_getElem? (i := 19) rfl)))
  have hlk_103 := (htw (.fieldLink RX14 103 "ProofServerModel" "waitInt" "[I") (jWr_12 _ (List.mem_of_getElem? (i := 4) rfl)))
  have hlk_380 := (htw (.fieldLink RX14 380 "ProofServerModel" "idInt" "I") (jWr_53 _ (List.mem_of_getElem? (i := 21) rfl)))
  have hlk_109 := (htw (.fieldLink RX14 109 "ProofServerModel" "waitLength" "[I") (jWr_12 _ (List.mem_of_getElem? (i := 6) rfl)))
  have hlk_383 := (htw (.fieldLink RX14 383 "ProofServerModel" "idLength" "I") (jWr_53 _ (List.mem_of_getElem? (i := 20) rfl)))
  have hlk_106 := (htw (.fieldLink RX14 106 "ProofServerModel" "waitUnits" "[I") (jWr_12 _ (List.mem_of_getElem? (i := 5) rfl)))
  have hlk_68 := (htw (.fieldLink RX14 68 "ProofServerModel" "idUnits" "[I") (jWr_11 _ (List.mem_of_getElem? (i := 15) rfl)))
  have hrg_a2 := jb_rng a2
  have hrg_a3 := jb_rng a3
  refine lv_aload_n hx hb dX14_waitFor_0 rfl (lv_at hl 0 rfl) ?_
  obtain ⟨v_1, hv_1, hh_2⟩ := hh.pin (C := RX14) (T := TX14) (N := 74) hB16 rfl (by decide) hg_r0 (i := 48) (by decide) rfl
  clear hh
  obtain ⟨waits_3, rfl, hlowaits_3, hhiwaits_3⟩ := hv_1
  refine j7_read hx hb hown hK (C := RX14) (T := TX14) (N := 74) rfl hly_16_48 hlk_711 (hh_2.at 0 rfl) dX14_waitFor_1 ?_
  refine lv_bipush (v := 12) hx hb dX14_waitFor_4 (by decide) ?_
  refine lv_icmp_ne (tgt := 18) hx hb dX14_waitFor_6 (by decide) (fun c_4 => ?_) (fun c_4 => ?_)
  · skip
    have c_4' : waits_3.toInt ≠ 12 := jb_ne (rfl) ((by decide)) c_4
    refine lv_aload_n hx hb dX14_waitFor_18 rfl (lv_at hl 0 rfl) ?_
    obtain ⟨v_5, hv_5, hh_6⟩ := hh_2.pin (C := RX14) (T := TX14) (N := 74) hB16 rfl (by decide) hg_r0 (i := 49) (by decide) rfl
    clear hh_2
    obtain ⟨waitOf_7, rfl, hg_waitOf_7⟩ := hv_5
    refine j7_read hx hb hown hK (C := RX14) (T := TX14) (N := 74) rfl hly_16_49 hlk_91 (hh_6.at 0 rfl) dX14_waitFor_19 ?_
    refine lv_aload_n hx hb dX14_waitFor_22 rfl (lv_at hl 0 rfl) ?_
    refine j7_read hx hb hown hK (C := RX14) (T := TX14) (N := 74) rfl hly_16_48 hlk_711 (hh_6.at 1 rfl) dX14_waitFor_23 ?_
    refine lv_aload_n hx hb dX14_waitFor_26 rfl (lv_at hl 1 rfl) ?_
    refine j7_qast hx hb hK2 hh_6 hB hB202 0 rfl (by decide) (by decide) rfl rfl rfl hg_waitOf_7 (x := waits_3.toInt) (rfl) (by omega) hB14 (T := TX12) (N := 11) rfl (by decide) hg_r1 (Or.inr ⟨_, rfl, hg_r1⟩) dX14_waitFor_27 (fun H_8 locs_8 hh_8 => ?_)
    clear hh_6
    refine lv_aload_n hx hb dX14_waitFor_28 rfl (lv_at hl 0 rfl) ?_
    obtain ⟨v_9, hv_9, hh_10⟩ := hh_8.pin (C := RX14) (T := TX14) (N := 74) hB16 rfl (by decide) hg_r0 (i := 50) (by decide) rfl
    clear hh_8
    obtain ⟨waitGoals_11, rfl, hg_waitGoals_11⟩ := hv_9
    refine j7_read hx hb hown hK (C := RX14) (T := TX14) (N := 74) rfl hly_16_50 hlk_94 (hh_10.at 0 rfl) dX14_waitFor_29 ?_
    refine lv_aload_n hx hb dX14_waitFor_32 rfl (lv_at hl 0 rfl) ?_
    refine j7_read hx hb hown hK (C := RX14) (T := TX14) (N := 74) rfl hly_16_48 hlk_711 (hh_10.at 2 rfl) dX14_waitFor_33 ?_
    refine lv_iload_n hx hb dX14_waitFor_36 rfl (lv_at hl 2 rfl) ?_
    refine j7_zast hx hb hK hh_10 hB hB103 3 rfl (by decide) (by decide) rfl rfl rfl hg_waitGoals_11 (x := waits_3.toInt) (rfl) (by omega) (hz_a2) (hz_a2) dX14_waitFor_37 (fun H_12 locs_12 hh_12 => ?_)
    clear hh_10
    refine lv_aload_n hx hb dX14_waitFor_38 rfl (lv_at hl 0 rfl) ?_
    obtain ⟨v_13, hv_13, hh_14⟩ := hh_12.pin (C := RX14) (T := TX14) (N := 74) hB16 rfl (by decide) hg_r0 (i := 51) (by decide) rfl
    clear hh_12
    obtain ⟨waitNeed_15, rfl, hg_waitNeed_15⟩ := hv_13
    refine j7_read hx hb hown hK (C := RX14) (T := TX14) (N := 74) rfl hly_16_51 hlk_97 (hh_14.at 0 rfl) dX14_waitFor_39 ?_
    refine lv_aload_n hx hb dX14_waitFor_42 rfl (lv_at hl 0 rfl) ?_
    refine j7_read hx hb hown hK (C := RX14) (T := TX14) (N := 74) rfl hly_16_48 hlk_711 (hh_14.at 3 rfl) dX14_waitFor_43 ?_
    refine lv_iload_n hx hb dX14_waitFor_46 rfl (lv_at hl 3 rfl) ?_
    refine j7_iast hx hb hK hh_14 hB hB206 1 rfl (by decide) (by decide) rfl rfl rfl hg_waitNeed_15 (x := waits_3.toInt) (rfl) (by omega) (by first | omega | (refine ⟨?_, ?_⟩ <;> (first | omega | rfl | assumption | decide | exact Or.inl rfl | exact Or.inr rfl | (simp only; omega)))) dX14_waitFor_47 (fun H_16 locs_16 hh_16 => ?_)
    clear hh_14
    refine lv_aload_n hx hb dX14_waitFor_48 rfl (lv_at hl 0 rfl) ?_
    obtain ⟨v_17, hv_17, hh_18⟩ := hh_16.pin (C := RX14) (T := TX14) (N := 74) hB16 rfl (by decide) hg_r0 (i := 52) (by decide) rfl
    clear hh_16
    obtain ⟨waitString_19, rfl, hg_waitString_19⟩ := hv_17
    refine j7_read hx hb hown hK (C := RX14) (T := TX14) (N := 74) rfl hly_16_52 hlk_100 (hh_18.at 0 rfl) dX14_waitFor_49 ?_
    refine lv_aload_n hx hb dX14_waitFor_52 rfl (lv_at hl 0 rfl) ?_
    refine j7_read hx hb hown hK (C := RX14) (T := TX14) (N := 74) rfl hly_16_48 hlk_711 (hh_18.at 4 rfl) dX14_waitFor_53 ?_
    refine lv_aload_n hx hb dX14_waitFor_56 rfl (lv_at hl 0 rfl) ?_
    obtain ⟨v_20, hv_20, hh_21⟩ := hh_18.pin (C := RX14) (T := TX14) (N := 74) hB16 rfl (by decide) hg_r0 (i := 36) (by decide) rfl
    clear hh_18
    obtain ⟨idString_22, rfl, hzidString_22⟩ := hv_20
    have hzidString_22' := jb_01 hzidString_22
    refine j7_read hx hb hown hK (C := RX14) (T := TX14) (N := 74) rfl hly_16_36 hlk_377 (hh_21.at 0 rfl) dX14_waitFor_57 ?_
    refine j7_zast hx hb hK hh_21 hB hB103 3 rfl (by decide) (by decide) rfl rfl rfl hg_waitString_19 (x := waits_3.toInt) (rfl) (by omega) (hzidString_22) (hzidString_22) dX14_waitFor_60 (fun H_23 locs_23 hh_23 => ?_)
    clear hh_21
    refine lv_aload_n hx hb dX14_waitFor_61 rfl (lv_at hl 0 rfl) ?_
    obtain ⟨v_24, hv_24, hh_25⟩ := hh_23.pin (C := RX14) (T := TX14) (N := 74) hB16 rfl (by decide) hg_r0 (i := 53) (by decide) rfl
    clear hh_23
    obtain ⟨waitInt_26, rfl, hg_waitInt_26⟩ := hv_24
    refine j7_read hx hb hown hK (C := RX14) (T := TX14) (N := 74) rfl hly_16_53 hlk_103 (hh_25.at 0 rfl) dX14_waitFor_62 ?_
    refine lv_aload_n hx hb dX14_waitFor_65 rfl (lv_at hl 0 rfl) ?_
    refine j7_read hx hb hown hK (C := RX14) (T := TX14) (N := 74) rfl hly_16_48 hlk_711 (hh_25.at 6 rfl) dX14_waitFor_66 ?_
    refine lv_aload_n hx hb dX14_waitFor_69 rfl (lv_at hl 0 rfl) ?_
    obtain ⟨v_27, hv_27, hh_28⟩ := hh_25.pin (C := RX14) (T := TX14) (N := 74) hB16 rfl (by decide) hg_r0 (i := 37) (by decide) rfl
    clear hh_25
    obtain ⟨idInt_29, rfl⟩ := hv_27
    refine j7_read hx hb hown hK (C := RX14) (T := TX14) (N := 74) rfl hly_16_37 hlk_380 (hh_28.at 0 rfl) dX14_waitFor_70 ?_
    refine j7_iast hx hb hK hh_28 hB hB101 1 rfl (by decide) (by decide) rfl rfl rfl hg_waitInt_26 (x := waits_3.toInt) (rfl) (by omega) (trivial) dX14_waitFor_73 (fun H_30 locs_30 hh_30 => ?_)
    clear hh_28
    refine lv_aload_n hx hb dX14_waitFor_74 rfl (lv_at hl 0 rfl) ?_
    obtain ⟨v_31, hv_31, hh_32⟩ := hh_30.pin (C := RX14) (T := TX14) (N := 74) hB16 rfl (by decide) hg_r0 (i := 55) (by decide) rfl
    clear hh_30
    obtain ⟨waitLength_33, rfl, hg_waitLength_33⟩ := hv_31
    refine j7_read hx hb hown hK (C := RX14) (T := TX14) (N := 74) rfl hly_16_55 hlk_109 (hh_32.at 0 rfl) dX14_waitFor_75 ?_
    refine lv_aload_n hx hb dX14_waitFor_78 rfl (lv_at hl 0 rfl) ?_
    refine j7_read hx hb hown hK (C := RX14) (T := TX14) (N := 74) rfl hly_16_48 hlk_711 (hh_32.at 8 rfl) dX14_waitFor_79 ?_
    refine lv_aload_n hx hb dX14_waitFor_82 rfl (lv_at hl 0 rfl) ?_
    obtain ⟨v_34, hv_34, hh_35⟩ := hh_32.pin (C := RX14) (T := TX14) (N := 74) hB16 rfl (by decide) hg_r0 (i := 39) (by decide) rfl
    clear hh_32
    obtain ⟨idLength_36, rfl, hloidLength_36, hhiidLength_36⟩ := hv_34
    refine j7_read hx hb hown hK (C := RX14) (T := TX14) (N := 74) rfl hly_16_39 hlk_383 (hh_35.at 0 rfl) dX14_waitFor_83 ?_
    refine j7_iast hx hb hK hh_35 hB hB203 1 rfl (by decide) (by decide) rfl rfl rfl hg_waitLength_33 (x := waits_3.toInt) (rfl) (by omega) (by first | omega | (refine ⟨?_, ?_⟩ <;> (first | omega | rfl | assumption | decide | exact Or.inl rfl | exact Or.inr rfl | (simp only; omega)))) dX14_waitFor_86 (fun H_37 locs_37 hh_37 => ?_)
    clear hh_35
    refine lv_iconst (v := 0) hx hb dX14_waitFor_87 (by decide) ?_
    refine lv_istore (lv' := [(4, .int 0), (0, .ref r0), (1, .ref r1), (2, .int a2), (3, .int a3)]) hx hb dX14_waitFor_88 hl (by decide) rfl (fun ls hl => ?_)
    have L90 : ∀ (N : Nat) (v4_38 : Int32) (H_38 : Heap) (locs_38 : List Loc), jSt (dC, dI) B base G0 G0 EX14_waitForK s.heap 0 0 [(r0, 16, 39, .int idLength_36), (r0, 16, 55, .ref waitLength_33), (r0, 16, 37, .int idInt_29), (r0, 16, 53, .ref waitInt_26), (r0, 16, 36, .int idString_22), (r0, 16, 52, .ref waitString_19), (r0, 16, 51, .ref waitNeed_15), (r0, 16, 50, .ref waitGoals_11), (r0, 16, 49, .ref waitOf_7), (r0, 16, 48, .int waits_3)] [] [] H_38 locs_38 → (0 ≤ v4_38.toInt ∧ v4_38.toInt ≤ 20) → (20 - v4_38.toInt : Int) < N → ∀ ls : Array Slot, lv_has ls 5 [(0, .ref r0), (1, .ref r1), (2, .int a2), (3, .int a3), (4, .int v4_38)] → W p l e R s m ([.ref r0, .ref r1, .int a2, .int a3] : List Value).toArray below meth c H_38 locs_38 0 0 Q (F0 m 90 ls []) := by
      intro N
      induction N with
      | zero => intro v4_38 H_38 locs_38 hh_38  hi_38 hm; exact absurd hm (by omega)
      | succ N L90 =>
        intro v4_38 H_38 locs_38 hh_38  hi_38 hm_38 ls hl
        obtain ⟨hi_38_0, hi_38_1⟩ := hi_38
        refine lv_iload hx hb dX14_waitFor_90 (lv_at hl 4 rfl) ?_
        refine lv_aload_n hx hb dX14_waitFor_92 rfl (lv_at hl 0 rfl) ?_
        refine j7_read hx hb hown hK (C := RX14) (T := TX14) (N := 74) rfl hly_16_39 hlk_383 (hh_38.at 0 rfl) dX14_waitFor_93 ?_
        refine lv_icmp_ge (tgt := 127) hx hb dX14_waitFor_96 (by decide) (fun c_39 => ?_) (fun c_39 => ?_)
        · skip
          have c_39' : v4_38.toInt ≥ idLength_36.toInt := jb_ge (rfl) (rfl) c_39
          refine lv_aload_n hx hb dX14_waitFor_127 rfl (lv_at hl 0 rfl) ?_
          refine lv_dup hx hb dX14_waitFor_128 rfl ?_
          refine j7_read hx hb hown hK (C := RX14) (T := TX14) (N := 74) rfl hly_16_48 hlk_711 (hh_38.at 9 rfl) dX14_waitFor_129 ?_
          refine lv_iconst (v := 1) hx hb dX14_waitFor_132 (by decide) ?_
          refine lv_iadd hx hb dX14_waitFor_133 ?_
          refine lv_topi (fun z_40 ez_40 => ?_)
          have hz_40 : z_40.toInt = waits_3.toInt + 1 := by rw [ez_40]; exact jb_iadd2 (rfl) ((by decide)) (by omega)
          refine j7_put hx hb hown hK hh_38 hB hAp hB16 (C := RX14) (T := TX14) (N := 74) rfl (by decide) hg_r0 (i := 48) (by decide) hly_16_48 rfl hlk_711 rfl (ty := .int) (v := .int z_40) (by decide +kernel) rfl rfl (⟨_, rfl, by omega, by omega⟩) rfl (L1 := [(r0, 16, 39, .int idLength_36), (r0, 16, 55, .ref waitLength_33), (r0, 16, 37, .int idInt_29), (r0, 16, 53, .ref waitInt_26), (r0, 16, 36, .int idString_22), (r0, 16, 52, .ref waitString_19), (r0, 16, 51, .ref waitNeed_15), (r0, 16, 50, .ref waitGoals_11), (r0, 16, 49, .ref waitOf_7)]) [0, 1, 2, 3, 4, 5, 6, 7, 8] rfl rfl rfl dX14_waitFor_134 (fun H_41 locs_41 hh_41 => ?_)
          clear hh_38
          refine lv_iconst (v := 1) hx hb dX14_waitFor_137 (by decide) ?_
          rw [hQ]
          exact W.zret (v := 1) hx hb hr (jb_nz (Or.inr rfl)) (fun t ht hW => ⟨⟨1, z_40, rfl, ⟨(Or.inr rfl), by (try dsimp only); first | omega | rfl | assumption | decide | exact Or.inl rfl | exact Or.inr rfl | (simp only; omega)⟩, hh_41.rt (M1 := [(r0, 16, 48, .int z_40)]) [0] rfl ht⟩, by rw [ht]; try exact hh_41.1.1, fun q h9 hq => by rw [ht]; try exact hh_41.1.2.1 q h9 hq⟩) hh_41.1.2.2 dX14_waitFor_138
        · skip
          have c_39' : v4_38.toInt < idLength_36.toInt := jb_ge_n (rfl) (rfl) c_39
          refine lv_aload_n hx hb dX14_waitFor_99 rfl (lv_at hl 0 rfl) ?_
          obtain ⟨v_42, hv_42, hh_43⟩ := hh_38.pin (C := RX14) (T := TX14) (N := 74) hB16 rfl (by decide) hg_r0 (i := 54) (by decide) rfl
          clear hh_38
          obtain ⟨waitUnits_44, rfl, hg_waitUnits_44⟩ := hv_42
          refine j7_read hx hb hown hK (C := RX14) (T := TX14) (N := 74) rfl hly_16_54 hlk_106 (hh_43.at 0 rfl) dX14_waitFor_100 ?_
          refine lv_bipush (v := 20) hx hb dX14_waitFor_103 (by decide) ?_
          refine lv_aload_n hx hb dX14_waitFor_105 rfl (lv_at hl 0 rfl) ?_
          refine j7_read hx hb hown hK (C := RX14) (T := TX14) (N := 74) rfl hly_16_48 hlk_711 (hh_43.at 10 rfl) dX14_waitFor_106 ?_
          refine lv_imul hx hb dX14_waitFor_109 ?_
          refine lv_topi (fun z_45 ez_45 => ?_)
          have hz_45 : z_45.toInt = 20 * waits_3.toInt := by rw [ez_45]; exact jb_imul2 ((by decide)) (rfl) (by omega)
          refine lv_iload hx hb dX14_waitFor_110 (lv_at hl 4 rfl) ?_
          refine lv_iadd hx hb dX14_waitFor_112 ?_
          refine lv_topi (fun z_46 ez_46 => ?_)
          have hz_46 : z_46.toInt = z_45.toInt + v4_38.toInt := by rw [ez_46]; exact jb_iadd2 (rfl) (rfl) (by omega)
          refine lv_aload_n hx hb dX14_waitFor_113 rfl (lv_at hl 0 rfl) ?_
          obtain ⟨v_47, hv_47, hh_48⟩ := hh_43.pin (C := RX14) (T := TX14) (N := 74) hB16 rfl (by decide) hg_r0 (i := 38) (by decide) rfl
          clear hh_43
          obtain ⟨idUnits_49, rfl, hg_idUnits_49⟩ := hv_47
          refine j7_read hx hb hown hK (C := RX14) (T := TX14) (N := 74) rfl hly_16_38 hlk_68 (hh_48.at 0 rfl) dX14_waitFor_114 ?_
          refine lv_iload hx hb dX14_waitFor_117 (lv_at hl 4 rfl) ?_
          refine j7_iald hx hb hK hh_48 hB101 1 rfl (by decide) hg_idUnits_49 (x := v4_38.toInt) (rfl) (by omega) dX14_waitFor_119 (fun z_50 (hz_50 : True) => ?_)
          refine j7_iast hx hb hK hh_48 hB hB101 1 rfl (by decide) (by decide) rfl rfl rfl hg_waitUnits_44 (x := z_46.toInt) (rfl) (by omega) (trivial) dX14_waitFor_120 (fun H_51 locs_51 hh_51 => ?_)
          clear hh_48
          obtain ⟨z_52, ez_52⟩ : ∃ y : Int32, y = v4_38 + 1 := ⟨_, rfl⟩
          refine lv_iinc (v := z_52) (lv' := [(4, .int z_52), (0, .ref r0), (1, .ref r1), (2, .int a2), (3, .int a3)]) hx hb dX14_waitFor_121 hl (k := 4) rfl (by rw [ez_52]; rfl) (by decide) rfl (fun ls hl => ?_)
          have hz_52 : z_52.toInt = v4_38.toInt + 1 := by rw [ez_52]; exact jb_iadd2 (rfl) (by decide) (by omega)
          refine lv_goto (tgt := 90) hx hb dX14_waitFor_124 (by decide) ?_
          exact L90 z_52 _ _ (hh_51.sub (L1 := [(r0, 16, 39, .int idLength_36), (r0, 16, 55, .ref waitLength_33), (r0, 16, 37, .int idInt_29), (r0, 16, 53, .ref waitInt_26), (r0, 16, 36, .int idString_22), (r0, 16, 52, .ref waitString_19), (r0, 16, 51, .ref waitNeed_15), (r0, 16, 50, .ref waitGoals_11), (r0, 16, 49, .ref waitOf_7), (r0, 16, 48, .int waits_3)]) [2, 3, 4, 5, 6, 7, 8, 9, 10, 11] rfl (M1 := []) [] rfl (I1 := []) [] rfl) (by first | omega | (refine ⟨?_, ?_⟩ <;> (first | omega | rfl | assumption | decide | exact Or.inl rfl | exact Or.inr rfl | (simp only; omega)))) (by omega) _ (lv_sub hl [1, 2, 3, 4, 0] rfl)
    exact L90 (20 - (0 : Int32).toInt : Int).toNat.succ 0 _ _ hh_37 (by first | omega | (refine ⟨?_, ?_⟩ <;> (first | omega | rfl | assumption | decide | exact Or.inl rfl | exact Or.inr rfl | (simp only; omega)))) (by omega) _ (lv_sub hl [1, 2, 3, 4, 0] rfl)
  · skip
    have c_4' : waits_3.toInt = 12 := jb_ne_n (rfl) ((by decide)) c_4
    refine lv_aload_n hx hb dX14_waitFor_9 rfl (lv_at hl 0 rfl) ?_
    refine lv_sipush (v := (-32600)) hx hb dX14_waitFor_10 (by decide) ?_
    refine va_callv (A0 := jA base) (H0 := s.heap) (va_runV (As := [.int (-32600)]) (rest := []) ⟨hx, hb, hml, hown, hts⟩ (uX14_error l dC dI ca base B hB hAp hB16 hB101 G0 s.heap r0 (-32600)) (cwV 1 hts (jgV (jWr_53 _ (List.mem_of_getElem? (i := 9) rfl)) (jWr_53 _ (List.mem_of_getElem? (i := 10) rfl)) (jWr_53 _ (List.mem_of_getElem? (i := 11) rfl)) (jWr_1 _ (List.mem_of_getElem? (i := 5) rfl)) (jWr_53 _ (List.mem_of_getElem? (i := 12) rfl))) rfl rfl rfl (by decide +kernel) ⟨by rw [← hR]; exact Nat.le_of_ble_eq_true rfl, by rw [← hR]; exact Nat.le_of_ble_eq_true rfl⟩) ⟨fun a U g mk q => by obtain ⟨q0, q1, q2, qK, q10, q11, q12⟩ := q; exact ⟨q0, q1, q2, jG.calling g mk a qK, q10, q11, q12⟩, hh_2.recv (C := RX14) (T := TX14) (N := 74) hB16 rfl (by decide) hg_r0 hK, fun U hU hW => ⟨rfl, hU, hh_2.2.1, hG.step hW hU hh_2.1, hg_r0, jP.nil, trivial⟩⟩ rfl rfl hl.1 rfl (lv_room (Nat.le_of_ble_eq_true rfl)) dX14_waitFor_13 ⟨Nat.zero_le _, Nat.zero_le _⟩) hh_2.1 (fun q _ h => h) (fun q h => h) (fun u_53 t_53 H_53 locs_53 ht_53 hvm_53 hr_54 hb_53 hz_53 hk_53 hS_53 => ?_)
    rw [ht_53] at hb_53
    obtain ⟨hb_531, hb_532, hb_533, hb_534, hb_535⟩ := hb_53
    have hh_53 : jSt (dC, dI) B base G0 G0 EX14_waitForK s.heap 0 0 [(r0, 16, 48, .int waits_3)] [] [] H_53 locs_53 := ((hh_2.call hb_531 hb_532 hb_533 hb_534 hS_53 rfl (L1 := [(r0, 16, 48, .int waits_3)]) [0] rfl rfl (M1 := []) [] rfl rfl (I1 := []) [] rfl rfl).more hb_535)
    clear hh_2 ht_53 hvm_53 hz_53 hk_53 hS_53 hb_531 hb_532 hb_533 hb_534 hb_535
    refine lv_iconst (v := 0) hx hb dX14_waitFor_16 (by decide) ?_
    rw [hQ]
    exact W.zret (v := 0) hx hb hr (jb_nz (Or.inl rfl)) (fun t ht hW => ⟨⟨0, waits_3, rfl, ⟨(Or.inl rfl), by (try dsimp only); first | omega | rfl | assumption | decide | exact Or.inl rfl | exact Or.inr rfl | (simp only; omega)⟩, hh_53.rt (M1 := [(r0, 16, 48, .int waits_3)]) [0] rfl ht⟩, by rw [ht]; try exact hh_53.1.1, fun q h9 hq => by rw [ht]; try exact hh_53.1.2.1 q h9 hq⟩) hh_53.1.2.2 dX14_waitFor_17
end
section
-- a document is closed: it goes behind the open ones
theorem jNo.keep {fo : Nat → Option Nat} {x w : Nat} {k k1 : Int} (h : jNo fo x k) (hv : fo w ≠ some x) (hw : (w : Int) = k) (hk : k1 = k + 1) : jNo fo x k1 := fun j hj => by
  by_cases e : j = w
  · subst e; exact hv
  · exact h j (by omega)
end
