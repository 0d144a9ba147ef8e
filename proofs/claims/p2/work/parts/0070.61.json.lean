section
def EX4_isUnits : List (Nat × Nat) := []
set_option maxHeartbeats 4000000 in
set_option maxRecDepth 20000 in
theorem uX4_isUnits (l : Launch) (dC : Nat → ClassId) (dI : Nat → Nat → Nat) (ca : Nat → ClassId) (base : Nat) (B : jF) (hB : jBok B) (hAp : jAp (dC, dI)) (hB6 : ∀ n G a H, B 6 n G a H ↔ jOb (dC, dI) 6 12 (F6 n G) a H) (hB101 : ∀ n G a H, B 101 n G a H ↔ jAr (dC, dI) (ca 1) (fun j z => True) n a H) (hB140 : ∀ n G a H, B 140 n G a H ↔ jAr (dC, dI) (ca 1) (fun j z => True) n a H) (hB141 : ∀ n G a H, B 141 n G a H ↔ jAr (dC, dI) (ca 1) (fun j z => True) n a H) (hB142 : ∀ n G a H, B 142 n G a H ↔ jAr (dC, dI) (ca 1) (fun j z => True) n a H) (hB146 : ∀ n G a H, B 146 n G a H ↔ jAr (dC, dI) (ca 1) (fun j z => True) n a H) (G0 : jT) (H0 : Heap) (r0 : Nat) (a1 : Int32) (r2 : Nat) (n2 : Nat) : Met l yX4_isUnits (jw yX4_isUnits cX4_isUnits 4 (some .boolean)) ({ frames := 2, cells := 0, slots := 0, locals := 44 }) (va_Pc [.ref r0, .int a1, .ref r2] (fun U => U.heap = H0 ∧ jX B base G0 [] H0 ∧ jG dC dI ca base U ∧ G0 r2 = some (101, n2) ∧ G0 r0 = some (6, 0) ∧ jP (dC, dI) G0 H0 [] ∧ n2 < 2147483648)) (va_Qi (S := Unit) (fun r u => (r = 0 ∨ r = 1) ∧ (True)) (fun u t => jRt (dC, dI) B base G0 EX4_isUnits H0 [] t.heap) (jA base)) 0 0 (jA base) := by
  refine Met.ofW (cc := cX4_isUnits) (maxL := 4) (ret := (some .boolean)) (by decide) rfl ?_
  intro p e s m args below meth c s₁ Bd hml hv
  obtain ⟨rfl, hH0, hX, hG, hg_r2, hg_r0, hP0, hp0⟩ := hv
  have hK := hG.1
  have hx := Bd.exec
  have hb := Bd.bytes
  have hr := Bd.returns
  have hts := atoms_spec (ws := (jw yX4_isUnits cX4_isUnits 4 (some .boolean))) Bd.pre
  have htw : ∀ w ∈ jWl, w.before _ s = true := fun w h => hts w (List.mem_cons_of_mem _ h)
  have hown : s.vm.findClass RX4 = some m.cls := findClass_of_methodNamed Bd.named
  have hlocks := Bd.notSynchronized
  obtain ⟨Q, hQ⟩ : ∃ Q, Q = MQ below (va_Qi (S := Unit) (fun r u => (r = 0 ∨ r = 1) ∧ (True)) (fun u t => jRt (dC, dI) B base G0 EX4_isUnits H0 [] t.heap) (jA base)) ([.ref r0, .int a1, .ref r2] : List Value).toArray s 0 0 (jA base) := ⟨_, rfl⟩
  rw [← hQ]
  have hl := lv_entry ([.ref r0, .int a1, .ref r2]) (n := 4) (Nat.le_of_ble_eq_true rfl)
  rw [lg_entry_eq]
  generalize (lg_sl ([.ref r0, .int a1, .ref r2]) ++ List.replicate (4 - (lg_sl ([.ref r0, .int a1, .ref r2])).length) Slot.unset).toArray = ls at hl ⊢
  have hl : lv_has ls 4 [(0, .ref r0), (1, .int a1), (2, .ref r2)] := hl
  generalize hR : (headSpec (jw yX4_isUnits cX4_isUnits 4 (some .boolean)) ({ frames := 2, cells := 0, slots := 0, locals := 44 })).room = R
  subst hH0
  have hh : jSt (dC, dI) B base G0 G0 EX4_isUnits s.heap 0 0 [] [] [] s.heap [] := jSt.start hX hP0 jMc.nil jIs.nil
  clear hX hP0
  have hk0 : (0 : Int32).toInt = 0 := by decide
  have hk1 : (1 : Int32).toInt = 1 := by decide
  have hk3 : (3 : Int32).toInt = 3 := by decide
  have hly_6_2 := htw (u_lay RX4 TX4 2) (jWc_wsX40 _ (u_in_lay (by decide)))
  have hlk_18 := (htw (.fieldLink RX4 18 "ProofServer$Json" "sizes" "[I") (jWr_3 _ (List.mem_of_getElem? (i := 23) rfl)))
  have hrg_a1 := jb_rng a1
  refine lv_aload_n hx hb dX4_isUnits_0 rfl (lv_at hl 0 rfl) ?_
  refine lv_iload_n hx hb dX4_isUnits_1 rfl (lv_at hl 1 rfl) ?_
  obtain ⟨v_3, hv_3, hh_4⟩ := hh.pin (C := RX4) (T := TX4) (N := 12) hB6 rfl (by decide) hg_r0 (i := 7) (by decide) rfl
  obtain ⟨values_5, rfl, hlovalues_5, hhivalues_5⟩ := hv_3
  refine va_calli (A0 := jA base) (H0 := s.heap) (va_runV (As := [.int a1]) (rest := []) ⟨hx, hb, hml, hown, hts⟩ (uX4_kindOf l dC dI ca base B hB hAp hB6 hB140 G0 s.heap r0 a1 values_5) (cwV 1 hts (jgV (jWr_23 _ (List.mem_of_getElem? (i := 14) rfl)) (jWr_23 _ (List.mem_of_getElem? (i := 15) rfl)) (jWr_23 _ (List.mem_of_getElem? (i := 16) rfl)) (jWr_1 _ (List.mem_of_getElem? (i := 22) rfl)) (jWr_23 _ (List.mem_of_getElem? (i := 17) rfl))) rfl rfl rfl (by decide +kernel) ⟨by rw [← hR]; exact Nat.le_of_ble_eq_true rfl, by rw [← hR]; exact Nat.le_of_ble_eq_true rfl⟩) ⟨fun a U g mk q => by obtain ⟨q0, q1, q2, qK, q10, q11, q12⟩ := q; exact ⟨q0, q1, q2, jG.calling g mk a qK, q10, q11, q12⟩, hh_4.recv (C := RX4) (T := TX4) (N := 12) hB6 rfl (by decide) hg_r0 hK, fun U hU hW => ⟨rfl, hU, hh_4.2.1, hG.step hW hU hh_4.1, hg_r0, (hh_4.2.2.1.sub (L1 := [(r0, 6, 7, .int values_5)]) [0] rfl), by first | omega | (refine ⟨?_, ?_⟩ <;> (first | omega | rfl | assumption | decide | exact Or.inl rfl | exact Or.inr rfl | (simp only; omega)))⟩⟩ rfl rfl hl.1 rfl (lv_room (Nat.le_of_ble_eq_true rfl)) dX4_isUnits_2 ⟨Nat.zero_le _, Nat.zero_le _⟩) hh_4.1 (fun q _ h => h) (fun q h => h) (fun r_2 u_1 t_1 H_1 locs_1 ht_1 hvm_1 hr_2 hb_1 hz_1 hk_1 hS_1 => ?_)
  rw [ht_1] at hb_1
  obtain ⟨hb_11, hb_12, hb_13, hb_14, hb_15⟩ := hb_1
  have hh_1 : jSt (dC, dI) B base G0 G0 EX4_isUnits s.heap 0 0 [(r0, 6, 7, .int values_5)] [] [] H_1 locs_1 := ((hh_4.call hb_11 hb_12 hb_13 hb_14 hS_1 rfl (L1 := [(r0, 6, 7, .int values_5)]) [0] rfl rfl (M1 := []) [] rfl rfl (I1 := []) [] rfl rfl).more hb_15)
  clear hh_4 ht_1 hvm_1 hz_1 hk_1 hS_1 hb_11 hb_12 hb_13 hb_14 hb_15
  refine lv_iconst (v := 3) hx hb dX4_isUnits_5 (by decide) ?_
  refine lv_icmp_ne (tgt := 20) hx hb dX4_isUnits_6 (by decide) (fun c_6 => ?_) (fun c_6 => ?_)
  · skip
    have c_6' : r_2.toInt ≠ 3 := jb_ne (rfl) ((by decide)) c_6
    try clear hr_2
    refine lv_iconst (v := 0) hx hb dX4_isUnits_20 (by decide) ?_
    rw [hQ]
    exact W.zret (v := 0) hx hb hr (jb_nz (Or.inl rfl)) (fun t ht hW => ⟨⟨0, (), rfl, ⟨(Or.inl rfl), trivial⟩, hh_1.rt (M1 := []) [] rfl ht⟩, by rw [ht]; try exact hh_1.1.1, fun q h9 hq => by rw [ht]; try exact hh_1.1.2.1 q h9 hq⟩) hh_1.1.2.2 dX4_isUnits_21
  · skip
    have c_6' : r_2.toInt = 3 := jb_ne_n (rfl) ((by decide)) c_6
    first | (have hr_2q := hr_2.resolve_left (by omega); clear hr_2) | (have hr_2q := hr_2.resolve_right (by omega); clear hr_2) | try clear hr_2
    refine lv_aload_n hx hb dX4_isUnits_9 rfl (lv_at hl 0 rfl) ?_
    obtain ⟨v_7, hv_7, hh_8⟩ := hh_1.pin (C := RX4) (T := TX4) (N := 12) hB6 rfl (by decide) hg_r0 (i := 2) (by decide) rfl
    clear hh_1
    obtain ⟨sizes_9, rfl, hg_sizes_9⟩ := hv_7
    refine j7_read hx hb hown hK (C := RX4) (T := TX4) (N := 12) rfl hly_6_2 hlk_18 (hh_8.at 0 rfl) dX4_isUnits_10 ?_
    refine lv_iload_n hx hb dX4_isUnits_13 rfl (lv_at hl 1 rfl) ?_
    refine j7_iald hx hb hK hh_8 hB142 1 rfl (by decide) hg_sizes_9 (x := a1.toInt) (rfl) (by omega) dX4_isUnits_14 (fun z_10 (hz_10 : True) => ?_)
    refine lv_aload_n hx hb dX4_isUnits_15 rfl (lv_at hl 2 rfl) ?_
    refine j7_len hx hb hK hh_8 hB101 1 rfl (by decide) hg_r2 (by omega) dX4_isUnits_16 (fun z_11 hz_11 => ?_)
    refine lv_icmp_eq (tgt := 22) hx hb dX4_isUnits_17 (by decide) (fun c_12 => ?_) (fun c_12 => ?_)
    · skip
      have c_12' : z_10.toInt = z_11.toInt := jb_eq (rfl) (rfl) c_12
      refine lv_iconst (v := 0) hx hb dX4_isUnits_22 (by decide) ?_
      refine lv_istore_n (lv' := [(3, .int 0), (0, .ref r0), (1, .int a1), (2, .ref r2)]) hx hb dX4_isUnits_23 rfl hl (by decide) rfl (fun ls hl => ?_)
      have L24 : ∀ (N : Nat) (v3_13 : Int32) (H_13 : Heap) (locs_13 : List Loc), jSt (dC, dI) B base G0 G0 EX4_isUnits s.heap 0 0 [(r0, 6, 2, .ref sizes_9), (r0, 6, 7, .int values_5)] [] [] H_13 locs_13 → (0 ≤ v3_13.toInt ∧ v3_13.toInt ≤ n2) → (n2 - v3_13.toInt : Int) < N → ∀ ls : Array Slot, lv_has ls 4 [(0, .ref r0), (1, .int a1), (2, .ref r2), (3, .int v3_13)] → W p l e R s m ([.ref r0, .int a1, .ref r2] : List Value).toArray below meth c H_13 locs_13 0 0 Q (F0 m 24 ls []) := by
        intro N
        induction N with
        | zero => intro v3_13 H_13 locs_13 hh_13  hi_13 hm; exact absurd hm (by omega)
        | succ N L24 =>
          intro v3_13 H_13 locs_13 hh_13  hi_13 hm_13 ls hl
          obtain ⟨hi_13_0, hi_13_1⟩ := hi_13
          refine lv_iload_n hx hb dX4_isUnits_24 rfl (lv_at hl 3 rfl) ?_
          refine lv_aload_n hx hb dX4_isUnits_25 rfl (lv_at hl 2 rfl) ?_
          refine j7_len hx hb hK hh_13 hB101 1 rfl (by decide) hg_r2 (by omega) dX4_isUnits_26 (fun z_14 hz_14 => ?_)
          refine lv_icmp_ge (tgt := 50) hx hb dX4_isUnits_27 (by decide) (fun c_15 => ?_) (fun c_15 => ?_)
          · skip
            have c_15' : v3_13.toInt ≥ z_14.toInt := jb_ge (rfl) (rfl) c_15
            refine lv_iconst (v := 1) hx hb dX4_isUnits_50 (by decide) ?_
            rw [hQ]
            exact W.zret (v := 1) hx hb hr (jb_nz (Or.inr rfl)) (fun t ht hW => ⟨⟨1, (), rfl, ⟨(Or.inr rfl), trivial⟩, hh_13.rt (M1 := []) [] rfl ht⟩, by rw [ht]; try exact hh_13.1.1, fun q h9 hq => by rw [ht]; try exact hh_13.1.2.1 q h9 hq⟩) hh_13.1.2.2 dX4_isUnits_51
          · skip
            have c_15' : v3_13.toInt < z_14.toInt := jb_ge_n (rfl) (rfl) c_15
            refine lv_aload_n hx hb dX4_isUnits_30 rfl (lv_at hl 0 rfl) ?_
            refine lv_iload_n hx hb dX4_isUnits_31 rfl (lv_at hl 1 rfl) ?_
            refine lv_iload_n hx hb dX4_isUnits_32 rfl (lv_at hl 3 rfl) ?_
            refine va_calli (A0 := jA base) (H0 := s.heap) (va_runV (As := [.int a1, .int v3_13]) (rest := []) ⟨hx, hb, hml, hown, hts⟩ (uX4_unitAt l dC dI ca base B hB hAp hB6 hB140 hB141 hB142 hB146 G0 H_13 r0 a1 v3_13) (cwV 2 hts (jgV (jWr_25 _ (List.mem_of_getElem? (i := 4) rfl)) (jWr_25 _ (List.mem_of_getElem? (i := 5) rfl)) (jWr_25 _ (List.mem_of_getElem? (i := 6) rfl)) (jWr_1 _ (List.mem_of_getElem? (i := 22) rfl)) (jWr_25 _ (List.mem_of_getElem? (i := 7) rfl))) rfl rfl rfl (by decide +kernel) ⟨by rw [← hR]; exact Nat.le_of_ble_eq_true rfl, by rw [← hR]; exact Nat.le_of_ble_eq_true rfl⟩) ⟨fun a U g mk q => by obtain ⟨q0, q1, q2, qK, q10, q11, q12⟩ := q; exact ⟨q0, q1, q2, jG.calling g mk a qK, q10, q11, q12⟩, hh_13.recv (C := RX4) (T := TX4) (N := 12) hB6 rfl (by decide) hg_r0 hK, fun U hU hW => ⟨rfl, hU, hh_13.2.1, hG.step hW hU hh_13.1, hg_r0, jP.nil, trivial⟩⟩ rfl rfl hl.1 rfl (lv_room (Nat.le_of_ble_eq_true rfl)) dX4_isUnits_33 ⟨Nat.zero_le _, Nat.zero_le _⟩) hh_13.1 (fun q _ h => h) (fun q h => h) (fun r_17 u_16 t_16 H_16 locs_16 ht_16 hvm_16 hr_17 hb_16 hz_16 hk_16 hS_16 => ?_)
            rw [ht_16] at hb_16
            obtain ⟨hb_161, hb_162, hb_163, hb_164, hb_165⟩ := hb_16
            have hh_16 : jSt (dC, dI) B base G0 G0 EX4_isUnits s.heap 0 0 [(r0, 6, 2, .ref sizes_9), (r0, 6, 7, .int values_5)] [] [] H_16 locs_16 := ((hh_13.call hb_161 hb_162 hb_163 hb_164 hS_16 rfl (L1 := [(r0, 6, 2, .ref sizes_9), (r0, 6, 7, .int values_5)]) [0, 1] rfl rfl (M1 := []) [] rfl rfl (I1 := []) [] rfl rfl).more hb_165)
            clear hh_13 ht_16 hvm_16 hz_16 hk_16 hS_16 hb_161 hb_162 hb_163 hb_164 hb_165
            refine lv_aload_n hx hb dX4_isUnits_36 rfl (lv_at hl 2 rfl) ?_
            refine lv_iload_n hx hb dX4_isUnits_37 rfl (lv_at hl 3 rfl) ?_
            refine j7_iald hx hb hK hh_16 hB101 1 rfl (by decide) hg_r2 (x := v3_13.toInt) (rfl) (by omega) dX4_isUnits_38 (fun z_18 (hz_18 : True) => ?_)
            refine lv_icmp_eq (tgt := 44) hx hb dX4_isUnits_39 (by decide) (fun c_19 => ?_) (fun c_19 => ?_)
            · skip
              have c_19' : r_17.toInt = z_18.toInt := jb_eq (rfl) (rfl) c_19
              obtain ⟨z_20, ez_20⟩ : ∃ y : Int32, y = v3_13 + 1 := ⟨_, rfl⟩
              refine lv_iinc (v := z_20) (lv' := [(3, .int z_20), (0, .ref r0), (1, .int a1), (2, .ref r2)]) hx hb dX4_isUnits_44 hl (k := 3) rfl (by rw [ez_20]; rfl) (by decide) rfl (fun ls hl => ?_)
              have hz_20 : z_20.toInt = v3_13.toInt + 1 := by rw [ez_20]; exact jb_iadd2 (rfl) (by decide) (by omega)
              refine lv_goto (tgt := 24) hx hb dX4_isUnits_47 (by decide) ?_
              exact L24 z_20 _ _ hh_16 (by first | omega | (refine ⟨?_, ?_⟩ <;> (first | omega | rfl | assumption | decide | exact Or.inl rfl | exact Or.inr rfl | (simp only; omega)))) (by omega) _ (lv_sub hl [1, 2, 3, 0] rfl)
            · skip
              have c_19' : r_17.toInt ≠ z_18.toInt := jb_eq_n (rfl) (rfl) c_19
              refine lv_iconst (v := 0) hx hb dX4_isUnits_42 (by decide) ?_
              rw [hQ]
              exact W.zret (v := 0) hx hb hr (jb_nz (Or.inl rfl)) (fun t ht hW => ⟨⟨0, (), rfl, ⟨(Or.inl rfl), trivial⟩, hh_16.rt (M1 := []) [] rfl ht⟩, by rw [ht]; try exact hh_16.1.1, fun q h9 hq => by rw [ht]; try exact hh_16.1.2.1 q h9 hq⟩) hh_16.1.2.2 dX4_isUnits_43
      exact L24 (n2 - (0 : Int32).toInt : Int).toNat.succ 0 _ _ hh_8 (by first | omega | (refine ⟨?_, ?_⟩ <;> (first | omega | rfl | assumption | decide | exact Or.inl rfl | exact Or.inr rfl | (simp only; omega)))) (by omega) _ (lv_sub hl [1, 2, 3, 0] rfl)
    · skip
      have c_12' : z_10.toInt ≠ z_11.toInt := jb_eq_n (rfl) (rfl) c_12
      refine lv_iconst (v := 0) hx hb dX4_isUnits_20 (by decide) ?_
      rw [hQ]
      exact W.zret (v := 0) hx hb hr (jb_nz (Or.inl rfl)) (fun t ht hW => ⟨⟨0, (), rfl, ⟨(Or.inl rfl), trivial⟩, hh_8.rt (M1 := []) [] rfl ht⟩, by rw [ht]; try exact hh_8.1.1, fun q h9 hq => by rw [ht]; try exact hh_8.1.2.1 q h9 hq⟩) hh_8.1.2.2 dX4_isUnits_21
end
section
theorem dX4_isText_0 : decode cX4_isText 0 = .ok (.aload_n 0, 1) := by decide +kernel
theorem dX4_isText_1 : decode cX4_isText 1 = .ok (.iload_n 1, 1) := by decide +kernel
theorem dX4_isText_2 : decode cX4_isText 2 = .ok (.invokevirtual 63, 3) := by decide +kernel
theorem dX4_isText_5 : decode cX4_isText 5 = .ok (.iconst 3, 1) := by decide +kernel
theorem dX4_isText_6 : decode cX4_isText 6 = .ok (.if_icmp .ne 27, 3) := by decide +kernel
theorem dX4_isText_9 : decode cX4_isText 9 = .ok (.aload_n 0, 1) := by decide +kernel
theorem dX4_isText_10 : decode cX4_isText 10 = .ok (.aload_n 0, 1) := by decide +kernel
theorem dX4_isText_11 : decode cX4_isText 11 = .ok (.getfield 15, 3) := by decide +kernel
theorem dX4_isText_14 : decode cX4_isText 14 = .ok (.iload_n 1, 1) := by decide +kernel
theorem dX4_isText_15 : decode cX4_isText 15 = .ok (.iaload, 1) := by decide +kernel
theorem dX4_isText_16 : decode cX4_isText 16 = .ok (.aload_n 0, 1) := by decide +kernel
theorem dX4_isText_17 : decode cX4_isText 17 = .ok (.getfield 18, 3) := by decide +kernel
theorem dX4_isText_20 : decode cX4_isText 20 = .ok (.iload_n 1, 1) := by decide +kernel
theorem dX4_isText_21 : decode cX4_isText 21 = .ok (.iaload, 1) := by decide +kernel
theorem dX4_isText_22 : decode cX4_isText 22 = .ok (.aload_n 2, 1) := by decide +kernel
theorem dX4_isText_23 : decode cX4_isText 23 = .ok (.invokevirtual 66, 3) := by decide +kernel
theorem dX4_isText_26 : decode cX4_isText 26 = .ok (.ifCond .eq 7, 3) := by decide +kernel
theorem dX4_isText_29 : decode cX4_isText 29 = .ok (.iconst 1, 1) := by decide +kernel
theorem dX4_isText_30 : decode cX4_isText 30 = .ok (.goto 4, 3) := by decide +kernel
theorem dX4_isText_33 : decode cX4_isText 33 = .ok (.iconst 0, 1) := by decide +kernel
theorem dX4_isText_34 : decode cX4_isText 34 = .ok (.ireturn, 1) := by decide +kernel
end
section
theorem dX0_init_0 : decode cX0_init 0 = .ok (.aload_n 0, 1) := by decide +kernel
theorem dX0_init_1 : decode cX0_init 1 = .ok (.invokespecial 1, 3) := by decide +kernel
theorem dX0_init_4 : decode cX0_init 4 = .ok (.aload_n 0, 1) := by decide +kernel
theorem dX0_init_5 : decode cX0_init 5 = .ok (.iload_n 1, 1) := by decide +kernel
theorem dX0_init_6 : decode cX0_init 6 = .ok (.bipush 16, 2) := by decide +kernel
theorem dX0_init_8 : decode cX0_init 8 = .ok (.invokestatic 7, 3) := by decide +kernel
theorem dX0_init_11 : decode cX0_init 11 = .ok (.newarray .byte, 2) := by decide +kernel
theorem dX0_init_13 : decode cX0_init 13 = .ok (.putfield 13, 3) := by decide +kernel
theorem dX0_init_16 : decode cX0_init 16 = .ok (.return_, 1) := by decide +kernel
end
section
theorem dX8_hasIdOf_0 : decode cX8_hasIdOf 0 = .ok (.aload_n 0, 1) := by decide +kernel
theorem dX8_hasIdOf_1 : decode cX8_hasIdOf 1 = .ok (.getfield 29, 3) := by decide +kernel
theorem dX8_hasIdOf_4 : decode cX8_hasIdOf 4 = .ok (.ifnull 27, 3) := by decide +kernel
theorem dX8_hasIdOf_7 : decode cX8_hasIdOf 7 = .ok (.aload_n 1, 1) := by decide +kernel
theorem dX8_hasIdOf_8 : decode cX8_hasIdOf 8 = .ok (.getfield 29, 3) := by decide +kernel
theorem dX8_hasIdOf_11 : decode cX8_hasIdOf 11 = .ok (.ifnull 20, 3) := by decide +kernel
theorem dX8_hasIdOf_14 : decode cX8_hasIdOf 14 = .ok (.aload_n 0, 1) := by decide +kernel
theorem dX8_hasIdOf_15 : decode cX8_hasIdOf 15 = .ok (.getfield 29, 3) := by decide +kernel
theorem dX8_hasIdOf_18 : decode cX8_hasIdOf 18 = .ok (.getfield 59, 3) := by decide +kernel
theorem dX8_hasIdOf_21 : decode cX8_hasIdOf 21 = .ok (.aload_n 1, 1) := by decide +kernel
theorem dX8_hasIdOf_22 : decode cX8_hasIdOf 22 = .ok (.getfield 29, 3) := by decide +kernel
theorem dX8_hasIdOf_25 : decode cX8_hasIdOf 25 = .ok (.getfield 59, 3) := by decide +kernel
theorem dX8_hasIdOf_28 : decode cX8_hasIdOf 28 = .ok (.if_icmp .eq 5, 3) := by decide +kernel
theorem dX8_hasIdOf_31 : decode cX8_hasIdOf 31 = .ok (.iconst 0, 1) := by decide +kernel
theorem dX8_hasIdOf_32 : decode cX8_hasIdOf 32 = .ok (.ireturn, 1) := by decide +kernel
theorem dX8_hasIdOf_33 : decode cX8_hasIdOf 33 = .ok (.iconst 0, 1) := by decide +kernel
theorem dX8_hasIdOf_34 : decode cX8_hasIdOf 34 = .ok (.istore_n 2, 1) := by decide +kernel
theorem dX8_hasIdOf_35 : decode cX8_hasIdOf 35 = .ok (.iload_n 2, 1) := by decide +kernel
theorem dX8_hasIdOf_36 : decode cX8_hasIdOf 36 = .ok (.aload_n 0, 1) := by decide +kernel
theorem dX8_hasIdOf_37 : decode cX8_hasIdOf 37 = .ok (.getfield 29, 3) := by decide +kernel
theorem dX8_hasIdOf_40 : decode cX8_hasIdOf 40 = .ok (.getfield 59, 3) := by decide +kernel
theorem dX8_hasIdOf_43 : decode cX8_hasIdOf 43 = .ok (.if_icmp .ge 32, 3) := by decide +kernel
theorem dX8_hasIdOf_46 : decode cX8_hasIdOf 46 = .ok (.aload_n 0, 1) := by decide +kernel
theorem dX8_hasIdOf_47 : decode cX8_hasIdOf 47 = .ok (.getfield 29, 3) := by decide +kernel
theorem dX8_hasIdOf_50 : decode cX8_hasIdOf 50 = .ok (.getfield 62, 3) := by decide +kernel
theorem dX8_hasIdOf_53 : decode cX8_hasIdOf 53 = .ok (.iload_n 2, 1) := by decide +kernel
theorem dX8_hasIdOf_54 : decode cX8_hasIdOf 54 = .ok (.baload, 1) := by decide +kernel
theorem dX8_hasIdOf_55 : decode cX8_hasIdOf 55 = .ok (.aload_n 1, 1) := by decide +kernel
theorem dX8_hasIdOf_56 : decode cX8_hasIdOf 56 = .ok (.getfield 29, 3) := by decide +kernel
theorem dX8_hasIdOf_59 : decode cX8_hasIdOf 59 = .ok (.getfield 62, 3) := by decide +kernel
theorem dX8_hasIdOf_62 : decode cX8_hasIdOf 62 = .ok (.iload_n 2, 1) := by decide +kernel
theorem dX8_hasIdOf_63 : decode cX8_hasIdOf 63 = .ok (.baload, 1) := by decide +kernel
theorem dX8_hasIdOf_64 : decode cX8_hasIdOf 64 = .ok (.if_icmp .eq 5, 3) := by decide +kernel
theorem dX8_hasIdOf_67 : decode cX8_hasIdOf 67 = .ok (.iconst 0, 1) := by decide +kernel
theorem dX8_hasIdOf_68 : decode cX8_hasIdOf 68 = .ok (.ireturn, 1) := by decide +kernel
theorem dX8_hasIdOf_69 : decode cX8_hasIdOf 69 = .ok (.iinc 2 1, 3) := by decide +kernel
theorem dX8_hasIdOf_72 : decode cX8_hasIdOf 72 = .ok (.goto (-37), 3) := by decide +kernel
theorem dX8_hasIdOf_75 : decode cX8_hasIdOf 75 = .ok (.iconst 1, 1) := by decide +kernel
theorem dX8_hasIdOf_76 : decode cX8_hasIdOf 76 = .ok (.ireturn, 1) := by decide +kernel
def EX8_hasIdOf : List (Nat × Nat) := []
set_option maxHeartbeats 4000000 in
set_option maxRecDepth 20000 in
theorem uX8_hasIdOf (l : Launch) (dC : Nat → ClassId) (dI : Nat → Nat → Nat) (ca : Nat → ClassId) (base : Nat) (B : jF) (hB : jBok B) (hAp : jAp (dC, dI)) (hB2 : ∀ n G a H, B 2 n G a H ↔ jOb (dC, dI) 2 2 (F2 n G) a H) (hB10 : ∀ n G a H, B 10 n G a H ↔ jOb (dC, dI) 10 5 (F10 n G) a H) (hB196 : ∀ n G a H, B 196 n G a H ↔ jAr (dC, dI) (ca 0) (fun j z => jBf j z) n a H) (G0 : jT) (H0 : Heap) (r0 : Nat) (r1 : Nat) : Met l yX8_hasIdOf (jw yX8_hasIdOf cX8_hasIdOf 3 (some .boolean)) ({ frames := 0, cells := 0, slots := 0, locals := 0 }) (va_Pc [.ref r0, .ref r1] (fun U => U.heap = H0 ∧ jX B base G0 [] H0 ∧ jG dC dI ca base U ∧ G0 r1 = some (10, 0) ∧ G0 r0 = some (10, 0) ∧ jP (dC, dI) G0 H0 [] ∧ jIs (dC, dI) G0 H0 [(jFy, jYb dC dI G0)] ∧ True)) (va_Qi (S := Unit) (fun r u => (r = 0 ∨ r = 1) ∧ (True)) (fun u t => (jRt (dC, dI) B base G0 EX8_hasIdOf H0 [] t.heap) ∧ jIs (dC, dI) G0 t.heap [(jFy, jYb dC dI G0)]) (jA base)) 0 0 (jA base) := by
  refine Met.ofW (cc := cX8_hasIdOf) (maxL := 3) (ret := (some .boolean)) (by decide) rfl ?_
  intro p e s m args below meth c s₁ Bd hml hv
  obtain ⟨rfl, hH0, hX, hG, hg_r1, hg_r0, hP0, hI0, hp0⟩ := hv
  have hK := hG.1
  have hx := Bd.exec
  have hb := Bd.bytes
  have hr := Bd.returns
  have hts := atoms_spec (ws := (jw yX8_hasIdOf cX8_hasIdOf 3 (some .boolean))) Bd.pre
  have htw : ∀ w ∈ jWl, w.before _ s = true := fun w h => hts w (List.mem_cons_of_mem _ h)
  have hown : s.vm.findClass RX8 = some m.cls := findClass_of_methodNamed Bd.named
  have hlocks := Bd.notSynchronized
  obtain ⟨Q, hQ⟩ : ∃ Q, Q = MQ below (va_Qi (S := Unit) (fun r u => (r = 0 ∨ r = 1) ∧ (True)) (fun u t => (jRt (dC, dI) B base G0 EX8_hasIdOf H0 [] t.heap) ∧ jIs (dC, dI) G0 t.heap [(jFy, jYb dC dI G0)]) (jA base)) ([.ref r0, .ref r1] : List Value).toArray s 0 0 (jA base) := ⟨_, rfl⟩
  rw [← hQ]
  have hl := lv_entry ([.ref r0, .ref r1]) (n := 3) (Nat.le_of_ble_eq_true rfl)
  rw [lg_entry_eq]
  generalize (lg_sl ([.ref r0, .ref r1]) ++ List.replicate (3 - (lg_sl ([.ref r0, .ref r1])).length) Slot.unset).toArray = ls at hl ⊢
  have hl : lv_has ls 3 [(0, .ref r0), (1, .ref r1)] := hl
  generalize hR : (headSpec (jw yX8_hasIdOf cX8_hasIdOf 3 (some .boolean)) ({ frames := 0, cells := 0, slots := 0, locals := 0 })).room = R
  subst hH0
  have hh : jSt (dC, dI) B base G0 G0 EX8_hasIdOf s.heap 0 0 [] [] [(jFy, jYb dC dI G0)] s.heap [] := jSt.start hX hP0 jMc.nil hI0
  clear hX hP0
  have hk0 : (0 : Int32).toInt = 0 := by decide
  have hk1 : (1 : Int32).toInt = 1 := by decide
  have hly_2_0 := htw (u_lay RX0 TX0 0) (jWc_wsX00 _ (u_in_lay (by decide)))
  have hly_2_1 := htw (u_lay RX0 TX0 1) (jWc_wsX00 _ (u_in_lay (by decide)))
  have hly_10_0 := htw (u_lay RX8 TX8 0) (jWc_wsX80 _ (u_in_lay (by decide)))
  have hlk_29 := (htw (.fieldLink RX8 29 "ProofServer$Request" "id" "LProofServer$Bytes;") (jWr_24 _ (List.mem_of_getElem? (i := 4) rfl)))
  have hlk_59 := (htw (.fieldLink RX8 59 "ProofServer$Bytes" "count" "I") (jWr_44 _ (List.mem_of_getElem? (i := 3) rfl)))
  have hlk_62 := (htw (.fieldLink RX8 62 "ProofServer$Bytes" "row" "[B") (jWr_44 _ (List.mem_of_getElem? (i := 4) rfl)))
  refine lv_aload_n hx hb dX8_hasIdOf_0 rfl (lv_at hl 0 rfl) ?_
  obtain ⟨v_1, hv_1, hh_2⟩ := hh.pin (C := RX8) (T := TX8) (N := 5) hB10 rfl (by decide) hg_r0 (i := 0) (by decide) rfl
  clear hh
  rcases hv_1 with rfl | ⟨id_3, rfl, hg_id_3⟩
  · refine j7_read hx hb hown hK (C := RX8) (T := TX8) (N := 5) rfl hly_10_0 hlk_29 (hh_2.at 0 rfl) dX8_hasIdOf_1 ?_
    refine lv_ifnullN (tgt := 31) hx hb dX8_hasIdOf_4 (by decide) ?_
    refine lv_iconst (v := 0) hx hb dX8_hasIdOf_31 (by decide) ?_
    rw [hQ]
    exact W.zret (v := 0) hx hb hr (jb_nz (Or.inl rfl)) (fun t ht hW => ⟨⟨0, (), rfl, ⟨(Or.inl rfl), trivial⟩, ⟨hh_2.rt (M1 := []) [] rfl ht, by rw [ht]; exact hh_2.2.2.2.2.2.2.2.2.sub (L1 := [(jFy, jYb dC dI G0)]) [0] rfl⟩⟩, by rw [ht]; try exact hh_2.1.1, fun q h9 hq => by rw [ht]; try exact hh_2.1.2.1 q h9 hq⟩) hh_2.1.2.2 dX8_hasIdOf_32
  · refine j7_read hx hb hown hK (C := RX8) (T := TX8) (N := 5) rfl hly_10_0 hlk_29 (hh_2.at 0 rfl) dX8_hasIdOf_1 ?_
    refine lv_ifnull hx hb dX8_hasIdOf_4 ?_
    refine lv_aload_n hx hb dX8_hasIdOf_7 rfl (lv_at hl 1 rfl) ?_
    obtain ⟨v_4, hv_4, hh_5⟩ := hh_2.pin (C := RX8) (T := TX8) (N := 5) hB10 rfl (by decide) hg_r1 (i := 0) (by decide) rfl
    clear hh_2
    rcases hv_4 with rfl | ⟨id_6, rfl, hg_id_6⟩
    · refine j7_read hx hb hown hK (C := RX8) (T := TX8) (N := 5) rfl hly_10_0 hlk_29 (hh_5.at 0 rfl) dX8_hasIdOf_8 ?_
      refine lv_ifnullN (tgt := 31) hx hb dX8_hasIdOf_11 (by decide) ?_
      refine lv_iconst (v := 0) hx hb dX8_hasIdOf_31 (by decide) ?_
      rw [hQ]
      exact W.zret (v := 0) hx hb hr (jb_nz (Or.inl rfl)) (fun t ht hW => ⟨⟨0, (), rfl, ⟨(Or.inl rfl), trivial⟩, ⟨hh_5.rt (M1 := []) [] rfl ht, by rw [ht]; exact hh_5.2.2.2.2.2.2.2.2.sub (L1 := [(jFy, jYb dC dI G0)]) [0] rfl⟩⟩, by rw [ht]; try exact hh_5.1.1, fun q h9 hq => by rw [ht]; try exact hh_5.1.2.1 q h9 hq⟩) hh_5.1.2.2 dX8_hasIdOf_32
    · refine j7_read hx hb hown hK (C := RX8) (T := TX8) (N := 5) rfl hly_10_0 hlk_29 (hh_5.at 0 rfl) dX8_hasIdOf_8 ?_
      refine lv_ifnull hx hb dX8_hasIdOf_11 ?_
      obtain ⟨yc_7, yx_7, ym_7, hy1_7, hy2_7, hg_yx_7, hy4_7⟩ := (hh_5.iv 0 rfl) _ hg_id_3
      have hh_8 := hh_5.more (P1 := [(id_3, 2, 1, .int yc_7), (id_3, 2, 0, .ref yx_7)]) (jP.cons hg_id_3 hy1_7 (jP.cons hg_id_3 hy2_7 jP.nil))
      clear hh_5
      obtain ⟨yc_9, yx_9, ym_9, hy1_9, hy2_9, hg_yx_9, hy4_9⟩ := (hh_8.iv 0 rfl) _ hg_id_6
      have hh_10 := hh_8.more (P1 := [(id_6, 2, 1, .int yc_9), (id_6, 2, 0, .ref yx_9)]) (jP.cons hg_id_6 hy1_9 (jP.cons hg_id_6 hy2_9 jP.nil))
      clear hh_8
      refine lv_aload_n hx hb dX8_hasIdOf_14 rfl (lv_at hl 0 rfl) ?_
      refine j7_read hx hb hown hK (C := RX8) (T := TX8) (N := 5) rfl hly_10_0 hlk_29 (hh_10.at 5 rfl) dX8_hasIdOf_15 ?_
      refine j7_read hx hb hown hK (C := RX0) (T := TX0) (N := 2) rfl hly_2_1 hlk_59 (hh_10.at 2 rfl) dX8_hasIdOf_18 ?_
      refine lv_aload_n hx hb dX8_hasIdOf_21 rfl (lv_at hl 1 rfl) ?_
      refine j7_read hx hb hown hK (C := RX8) (T := TX8) (N := 5) rfl hly_10_0 hlk_29 (hh_10.at 4 rfl) dX8_hasIdOf_22 ?_
      refine j7_read hx hb hown hK (C := RX0) (T := TX0) (N := 2) rfl hly_2_1 hlk_59 (hh_10.at 0 rfl) dX8_hasIdOf_25 ?_
      refine lv_icmp_eq (tgt := 33) hx hb dX8_hasIdOf_28 (by decide) (fun c_11 => ?_) (fun c_11 => ?_)
      · skip
        have c_11' : yc_7.toInt = yc_9.toInt := jb_eq (rfl) (rfl) c_11
        refine lv_iconst (v := 0) hx hb dX8_hasIdOf_33 (by decide) ?_
        refine lv_istore_n (lv' := [(2, .int 0), (0, .ref r0), (1, .ref r1)]) hx hb dX8_hasIdOf_34 rfl hl (by decide) rfl (fun ls hl => ?_)
        have L35 : ∀ (N : Nat) (v2_12 : Int32) (H_12 : Heap) (locs_12 : List Loc), jSt (dC, dI) B base G0 G0 EX8_hasIdOf s.heap 0 0 [(id_6, 2, 1, .int yc_9), (id_6, 2, 0, .ref yx_9), (id_3, 2, 1, .int yc_7), (id_3, 2, 0, .ref yx_7), (r1, 10, 0, .ref id_6), (r0, 10, 0, .ref id_3)] [] [(jFy, jYb dC dI G0)] H_12 locs_12 → (0 ≤ v2_12.toInt ∧ v2_12.toInt ≤ 1048576) → (1048577 - v2_12.toInt : Int) < N → ∀ ls : Array Slot, lv_has ls 3 [(0, .ref r0), (1, .ref r1), (2, .int v2_12)] → W p l e R s m ([.ref r0, .ref r1] : List Value).toArray below meth c H_12 locs_12 0 0 Q (F0 m 35 ls []) := by
          intro N
          induction N with
          | zero => intro v2_12 H_12 locs_12 hh_12  hi_12 hm; exact absurd hm (by omega)
          | succ N L35 =>
            intro v2_12 H_12 locs_12 hh_12  hi_12 hm_12 ls hl
            obtain ⟨hi_12_0, hi_12_1⟩ := hi_12
            refine lv_iload_n hx hb dX8_hasIdOf_35 rfl (lv_at hl 2 rfl) ?_
            refine lv_aload_n hx hb dX8_hasIdOf_36 rfl (lv_at hl 0 rfl) ?_
            refine j7_read hx hb hown hK (C := RX8) (T := TX8) (N := 5) rfl hly_10_0 hlk_29 (hh_12.at 5 rfl) dX8_hasIdOf_37 ?_
            refine j7_read hx hb hown hK (C := RX0) (T := TX0) (N := 2) rfl hly_2_1 hlk_59 (hh_12.at 2 rfl) dX8_hasIdOf_40 ?_
            refine lv_icmp_ge (tgt := 75) hx hb dX8_hasIdOf_43 (by decide) (fun c_13 => ?_) (fun c_13 => ?_)
            · skip
              have c_13' : v2_12.toInt ≥ yc_7.toInt := jb_ge (rfl) (rfl) c_13
              refine lv_iconst (v := 1) hx hb dX8_hasIdOf_75 (by decide) ?_
              rw [hQ]
              exact W.zret (v := 1) hx hb hr (jb_nz (Or.inr rfl)) (fun t ht hW => ⟨⟨1, (), rfl, ⟨(Or.inr rfl), trivial⟩, ⟨hh_12.rt (M1 := []) [] rfl ht, by rw [ht]; exact hh_12.2.2.2.2.2.2.2.2.sub (L1 := [(jFy, jYb dC dI G0)]) [0] rfl⟩⟩, by rw [ht]; try exact hh_12.1.1, fun q h9 hq => by rw [ht]; try exact hh_12.1.2.1 q h9 hq⟩) hh_12.1.2.2 dX8_hasIdOf_76
            · skip
              have c_13' : v2_12.toInt < yc_7.toInt := jb_ge_n (rfl) (rfl) c_13
              refine lv_aload_n hx hb dX8_hasIdOf_46 rfl (lv_at hl 0 rfl) ?_
              refine j7_read hx hb hown hK (C := RX8) (T := TX8) (N := 5) rfl hly_10_0 hlk_29 (hh_12.at 5 rfl) dX8_hasIdOf_47 ?_
              refine j7_read hx hb hown hK (C := RX0) (T := TX0) (N := 2) rfl hly_2_0 hlk_62 (hh_12.at 3 rfl) dX8_hasIdOf_50 ?_
              refine lv_iload_n hx hb dX8_hasIdOf_53 rfl (lv_at hl 2 rfl) ?_
              refine j7_bald hx hb hK hh_12 hB196 0 rfl (by decide) hg_yx_7 (x := v2_12.toInt) (rfl) (by omega) dX8_hasIdOf_54 (fun z_14 (hz_14 : jBf (v2_12.toInt).toNat z_14) => ?_)
              refine lv_aload_n hx hb dX8_hasIdOf_55 rfl (lv_at hl 1 rfl) ?_
              refine j7_read hx hb hown hK (C := RX8) (T := TX8) (N := 5) rfl hly_10_0 hlk_29 (hh_12.at 4 rfl) dX8_hasIdOf_56 ?_
              refine j7_read hx hb hown hK (C := RX0) (T := TX0) (N := 2) rfl hly_2_0 hlk_62 (hh_12.at 1 rfl) dX8_hasIdOf_59 ?_
              refine lv_iload_n hx hb dX8_hasIdOf_62 rfl (lv_at hl 2 rfl) ?_
              refine j7_bald hx hb hK hh_12 hB196 0 rfl (by decide) hg_yx_9 (x := v2_12.toInt) (rfl) (by omega) dX8_hasIdOf_63 (fun z_15 (hz_15 : jBf (v2_12.toInt).toNat z_15) => ?_)
              refine lv_icmp_eq (tgt := 69) hx hb dX8_hasIdOf_64 (by decide) (fun c_16 => ?_) (fun c_16 => ?_)
              · skip
                have c_16' : z_14.toInt = z_15.toInt := jb_eq (rfl) (rfl) c_16
                obtain ⟨z_17, ez_17⟩ : ∃ y : Int32, y = v2_12 + 1 := ⟨_, rfl⟩
                refine lv_iinc (v := z_17) (lv' := [(2, .int z_17), (0, .ref r0), (1, .ref r1)]) hx hb dX8_hasIdOf_69 hl (k := 2) rfl (by rw [ez_17]; rfl) (by decide) rfl (fun ls hl => ?_)
                have hz_17 : z_17.toInt = v2_12.toInt + 1 := by rw [ez_17]; exact jb_iadd2 (rfl) (by decide) (by omega)
                refine lv_goto (tgt := 35) hx hb dX8_hasIdOf_72 (by decide) ?_
                exact L35 z_17 _ _ hh_12 (by first | omega | (refine ⟨?_, ?_⟩ <;> (first | omega | rfl | assumption | decide | exact Or.inl rfl | exact Or.inr rfl | (simp only; omega)))) (by omega) _ (lv_sub hl [1, 2, 0] rfl)
              · skip
                have c_16' : z_14.toInt ≠ z_15.toInt := jb_eq_n (rfl) (rfl) c_16
                refine lv_iconst (v := 0) hx hb dX8_hasIdOf_67 (by decide) ?_
                rw [hQ]
                exact W.zret (v := 0) hx hb hr (jb_nz (Or.inl rfl)) (fun t ht hW => ⟨⟨0, (), rfl, ⟨(Or.inl rfl), trivial⟩, ⟨hh_12.rt (M1 := []) [] rfl ht, by rw [ht]; exact hh_12.2.2.2.2.2.2.2.2.sub (L1 := [(jFy, jYb dC dI G0)]) [0] rfl⟩⟩, by rw [ht]; try exact hh_12.1.1, fun q h9 hq => by rw [ht]; try exact hh_12.1.2.1 q h9 hq⟩) hh_12.1.2.2 dX8_hasIdOf_68
        exact L35 (1048577 - (0 : Int32).toInt : Int).toNat.succ 0 _ _ hh_10 (by first | omega | (refine ⟨?_, ?_⟩ <;> (first | omega | rfl | assumption | decide | exact Or.inl rfl | exact Or.inr rfl | (simp only; omega)))) (by omega) _ (lv_sub hl [1, 2, 0] rfl)
      · skip
        have c_11' : yc_7.toInt ≠ yc_9.toInt := jb_eq_n (rfl) (rfl) c_11
        refine lv_iconst (v := 0) hx hb dX8_hasIdOf_31 (by decide) ?_
        rw [hQ]
        exact W.zret (v := 0) hx hb hr (jb_nz (Or.inl rfl)) (fun t ht hW => ⟨⟨0, (), rfl, ⟨(Or.inl rfl), trivial⟩, ⟨hh_10.rt (M1 := []) [] rfl ht, by rw [ht]; exact hh_10.2.2.2.2.2.2.2.2.sub (L1 := [(jFy, jYb dC dI G0)]) [0] rfl⟩⟩, by rw [ht]; try exact hh_10.1.1, fun q h9 hq => by rw [ht]; try exact hh_10.1.2.1 q h9 hq⟩) hh_10.1.2.2 dX8_hasIdOf_32
end
section
-- what the kernel's walks need: raw arrays of ints, arrays whose last element is null, states, new goals
section J30
variable {p : Program} {l : Launch} {e : Env} {R : Room} {s : State} {m : MethodId} {args : Array Value} {below : List Frame} {meth : Method} {c : Code} {H : Heap} {locs : List Loc} {cells slots : Nat} {Q : State → Prop}
variable {cc : ByteArray} {pc : Nat} {ls : Array Slot} {rest : List Value} {dC : Nat → ClassId} {dI : Nat → Nat → Nat} {ca : Nat → ClassId} {B : jF} {base : Nat} {G0 G : jT} {E : List (Nat × Nat)} {H0 : Heap} {zc zs : Nat} {L : List jPin} {M : List jCt} {I : List jIv} {a a0 k k0 n n0 index : Nat} {tys : List (ClassId × FieldType)} {own C : String} {cA : ClassId}
end J30
theorem jSef.own {dC : Nat → ClassId} {dI : Nat → Nat → Nat} {G G1 : jT} {r : Nat} {H H1 : Heap} {ks : List Nat} (h : jSef dC dI G H) (ho : jOw (dC, dI) G 11 r H H1) (hle : jLe G G1) (hN : jNk ks G G1) (hk : ks.contains 11 = true) (hr : ∃ x y m : Nat, jf (dC, dI) 11 r 4 (.ref x) H1 ∧ jf (dC, dI) 11 r 5 (.ref y) H1 ∧ G1 x = some (101, m) ∧ G1 y = some (313, m) ∧ m ≤ 16) : jSef dC dI G1 H1 := fun a ha => by
  by_cases e : a = r
  · subst e; exact hr
  · have ha0 := hN a 11 0 ha hk
    obtain ⟨x, y, m, g1, g2, g3, g4, g5⟩ := h a ha0
    exact ⟨x, y, m, ho a 0 4 _ e ha0 g1, ho a 0 5 _ e ha0 g2, hle _ _ g3, hle _ _ g4, g5⟩
end
section
def EJx4a65c_fastRemove_b59b0L1 : List (Nat × Nat) := [(1, 0), (1, 2), (221, 0)]
def EJx4a65c_remove_915e3L1 : List (Nat × Nat) := [(1, 0), (1, 2), (221, 0)]
set_option maxHeartbeats 4000000 in
set_option maxRecDepth 20000 in
theorem uJx4a65c_fastRemove_b59b0L1 (l : Launch) (dC : Nat → ClassId) (dI : Nat → Nat → Nat) (ca : Nat → ClassId) (base : Nat) (B : jF) (hB : jBok B) (hAp : jAp (dC, dI)) (hB1 : ∀ n G a H, B 1 n G a H ↔ jOb (dC, dI) 1 3 (F1 n G) a H) (hB3 : ∀ n G a H, B 3 n G a H ↔ jOb (dC, dI) 3 17 (F3 n G) a H) (hB221 : ∀ n G a H, B 221 n G a H ↔ jAq (dC, dI) (ca 9) (jQn 3 0) n G a H) (G0 : jT) (H0 : Heap) (r0 : Nat) (r1 : Nat) (a2 : Int32) (n1 : Nat) (lz : Int32) : Met l yJx4a65c_fastRemove_b59b0 (jw yJx4a65c_fastRemove_b59b0 cJx4a65c_fastRemove_b59b0 4 none) ({ frames := 1, cells := 0, slots := 0, locals := 61 }) (va_Pc [.ref r0, .ref r1, .int a2] (fun U => U.heap = H0 ∧ jX B base G0 [] H0 ∧ jG dC dI ca base U ∧ jK7 dC dI ca base U ∧ G0 r0 = some (1, 1) ∧ G0 r1 = some (221, n1) ∧ jP (dC, dI) G0 H0 [(r0, 1, 1, .ref r1), (r0, 1, 2, .int lz)] ∧ jIs (dC, dI) G0 H0 [(jFl, jLs dC dI ca G0 3 none)] ∧ 0 ≤ a2.toInt ∧ a2.toInt < lz.toInt)) (va_Qv (S := Int32) (fun u => u.toInt = lz.toInt - 1) (fun u t => ((jRt (dC, dI) B base G0 EJx4a65c_fastRemove_b59b0L1 H0 [(r0, 1, 2, .int u)] t.heap) ∧ jOw (dC, dI) G0 1 r0 H0 t.heap) ∧ jIs (dC, dI) G0 t.heap [(jFl, jLs dC dI ca G0 3 none)]) (jA base)) 0 0 (jA base) := by
  refine Met.ofW (cc := cJx4a65c_fastRemove_b59b0) (maxL := 4) (ret := none) (by decide) rfl ?_
  intro p e s m args below meth c s₁ Bd hml hv
  obtain ⟨rfl, hH0, hX, hG, hK7, hg_r0, hg_r1, hP0, hI0, hp0, hp1⟩ := hv
  have hK := hG.1
  have hx := Bd.exec
  have hb := Bd.bytes
  have hr := Bd.returns
  have hts := atoms_spec (ws := (jw yJx4a65c_fastRemove_b59b0 cJx4a65c_fastRemove_b59b0 4 none)) Bd.pre
  have htw : ∀ w ∈ jWl, w.before _ s = true := fun w h => hts w (List.mem_cons_of_mem _ h)
  have hown : s.vm.findClass RJx4a65c = some m.cls := findClass_of_methodNamed Bd.named
  have hlocks := Bd.notSynchronized
  obtain ⟨Q, hQ⟩ : ∃ Q, Q = MQ below (va_Qv (S := Int32) (fun u => u.toInt = lz.toInt - 1) (fun u t => ((jRt (dC, dI) B base G0 EJx4a65c_fastRemove_b59b0L1 H0 [(r0, 1, 2, .int u)] t.heap) ∧ jOw (dC, dI) G0 1 r0 H0 t.heap) ∧ jIs (dC, dI) G0 t.heap [(jFl, jLs dC dI ca G0 3 none)]) (jA base)) ([.ref r0, .ref r1, .int a2] : List Value).toArray s 0 0 (jA base) := ⟨_, rfl⟩
  rw [← hQ]
  have hl := lv_entry ([.ref r0, .ref r1, .int a2]) (n := 4) (Nat.le_of_ble_eq_true rfl)
  rw [lg_entry_eq]
  generalize (lg_sl ([.ref r0, .ref r1, .int a2]) ++ List.replicate (4 - (lg_sl ([.ref r0, .ref r1, .int a2])).length) Slot.unset).toArray = ls at hl ⊢
  have hl : lv_has ls 4 [(0, .ref r0), (1, .ref r1), (2, .int a2)] := hl
  generalize hR : (headSpec (jw yJx4a65c_fastRemove_b59b0 cJx4a65c_fastRemove_b59b0 4 none) ({ frames := 1, cells := 0, slots := 0, locals := 61 })).room = R
  subst hH0
  have hh : jSt (dC, dI) B base G0 G0 EJx4a65c_fastRemove_b59b0L1 s.heap 0 0 [(r0, 1, 1, .ref r1), (r0, 1, 2, .int lz)] [] [(jFl, jLs dC dI ca G0 3 none)] s.heap [] := jSt.start hX hP0 jMc.nil hI0
  clear hX hP0
  have hk0 : (0 : Int32).toInt = 0 := by decide
  have hk1 : (1 : Int32).toInt = 1 := by decide
  have hly_1_0 := htw (u_lay RJx4a65c TJx4a65c 0) (jWc_wsJx4a65c0 _ (u_in_lay (by decide)))
  have hly_1_2 := htw (u_lay RJx4a65c TJx4a65c 2) (jWc_wsJx4a65c0 _ (u_in_lay (by decide)))
  have hlk_63 := (htw (.fieldLink RJx4a65c 63 "java/util/ArrayList" "modCount" "I") (jWr_33 _ (List.mem_of_getElem? (i := 11) rfl)))
  have hlk_48 := (htw (.fieldLink RJx4a65c 48 "java/util/ArrayList" "size" "I") (jWr_28 _ (List.mem_of_getElem? (i := 2) rfl)))
  have hrg_a2 := jb_rng a2
  have hh_1 := hh.addI (jOw.ie (dC := dC) (dI := dI) (G0 := G0) (k := 1) (r := r0) (H0 := s.heap) (F := [(1, 0), (1, 1), (1, 2)]) (C := RJx4a65c) (T := TJx4a65c) (N := 3) rfl (by decide) hh.2.2.2.2.1 (jOw.rf))
  clear hh
  obtain ⟨lz_2, lx_2, hl1_2, hl2_2, hl3_2, hl4_2⟩ := jLs.at (hh_1.iv 1 rfl) hg_r0
  obtain rfl : lz = lz_2 := Value.int.inj (jf.uniq (hh_1.at 1 rfl) hl1_2)
  have hl3_2 : 0 ≤ lz.toInt ∧ lz.toInt ≤ 3 := hl3_2
  obtain rfl : r1 = lx_2 := Value.ref.inj (jf.uniq (hh_1.at 0 rfl) hl2_2)
  rcases hl4_2 with ⟨hl9_2, hl5_2⟩ | ⟨lm_2, lf_2, hg_lx_2, hlm_2, hl6_2, hl7_2, hl8_2⟩
  · skip
    exact (by omega : False).elim
  · skip
    obtain rfl : n1 = lm_2 := by have h9 := Option.some.inj (hg_r1.symm.trans hg_lx_2); exact congrArg Prod.snd h9
    have hd_3 := jLs.less (hh_1.iv 1 rfl) r0
    have hh_4 := hh_1.sub (L1 := [(r0, 1, 1, .ref r1), (r0, 1, 2, .int lz)]) [0, 1] rfl (M1 := []) [] rfl (I1 := [([(1, 0), (1, 1), (1, 2)], jOw (dC, dI) G0 1 r0 s.heap)]) [0] rfl
    clear hh_1
    have hh_5 := hh_4.addI (jLs.ie hd_3)
    clear hh_4
    have hh_6 := hh_5.addI (jQc.ie hl7_2 hg_lx_2 (by decide) (by decide))
    clear hh_5
    refine lv_aload_n hx hb dJx4a65c_fastRemove_b59b0_0 rfl (lv_at hl 0 rfl) ?_
    refine lv_dup hx hb dJx4a65c_fastRemove_b59b0_1 rfl ?_
    obtain ⟨v_7, hv_7, hh_8⟩ := hh_6.pin (C := RJx4a65c) (T := TJx4a65c) (N := 3) hB1 rfl (by decide) hg_r0 (i := 0) (by decide) rfl
    clear hh_6
    obtain ⟨modCount_9, rfl⟩ := hv_7
    refine j7_readS hx hb hown hK (C := RJx4a65c) (T := TJx4a65c) (N := 3) rfl hly_1_0 hlk_63 (htw (.sameField "java/util/ArrayList" "java/util/AbstractList" "modCount" "I") (jWr_33 _ (List.mem_of_getElem? (i := 12) rfl))) (hh_8.at 0 rfl) dJx4a65c_fastRemove_b59b0_2 ?_
    refine lv_iconst (v := 1) hx hb dJx4a65c_fastRemove_b59b0_5 (by decide) ?_
    refine lv_iadd hx hb dJx4a65c_fastRemove_b59b0_6 ?_
    refine lv_topi (fun z_10 ez_10 => ?_)
    have hd_12 := hh_8.iv 2 rfl
    have hh_13 := hh_8.sub (L1 := [(r0, 1, 0, .int modCount_9), (r0, 1, 1, .ref r1), (r0, 1, 2, .int lz)]) [0, 1, 2] rfl (M1 := []) [] rfl (I1 := [([(221, 0)], jQc dC dI (ca 9) r1 n1 lf_2), (jFl, jLs dC dI ca G0 3 (some r0))]) [0, 1] rfl
    clear hh_8
    refine j7_putS hx hb hown hK hh_13 hB hAp hB1 (C := RJx4a65c) (T := TJx4a65c) (N := 3) rfl (by decide) hg_r0 (i := 0) (by decide) hly_1_0 rfl hlk_63 (htw (.sameField "java/util/ArrayList" "java/util/AbstractList" "modCount" "I") (jWr_33 _ (List.mem_of_getElem? (i := 12) rfl))) rfl (ty := .int) (v := .int z_10) (by decide +kernel) rfl rfl (⟨_, rfl⟩) rfl (L1 := [(r0, 1, 1, .ref r1), (r0, 1, 2, .int lz)]) [1, 2] rfl rfl rfl dJx4a65c_fastRemove_b59b0_7 (fun H_11 locs_11 hr_11 hh_11 => ?_)
    clear hh_13
    have hd_12n := jOw.put hd_12 hr_11
    have hh_14 := hh_11.addI (jOw.ie (dC := dC) (dI := dI) (G0 := G0) (k := 1) (r := r0) (H0 := s.heap) (F := [(1, 0), (1, 1), (1, 2)]) (C := RJx4a65c) (T := TJx4a65c) (N := 3) rfl (by decide) hh_11.2.2.2.2.1 (hd_12n))
    clear hh_11
    clear hd_12 hd_12n
    clear hr_11
    refine lv_aload_n hx hb dJx4a65c_fastRemove_b59b0_10 rfl (lv_at hl 0 rfl) ?_
    refine j7_read hx hb hown hK (C := RJx4a65c) (T := TJx4a65c) (N := 3) rfl hly_1_2 hlk_48 (hh_14.at 2 rfl) dJx4a65c_fastRemove_b59b0_11 ?_
    refine lv_iconst (v := 1) hx hb dJx4a65c_fastRemove_b59b0_14 (by decide) ?_
    refine lv_isub hx hb dJx4a65c_fastRemove_b59b0_15 ?_
    refine lv_topi (fun z_15 ez_15 => ?_)
    have hz_15 : z_15.toInt = lz.toInt - 1 := by rw [ez_15]; exact jb_isub2 (rfl) ((by decide)) (by omega)
    refine lv_dup hx hb dJx4a65c_fastRemove_b59b0_16 rfl ?_
    refine lv_istore_n (lv' := [(3, .int z_15), (0, .ref r0), (1, .ref r1), (2, .int a2)]) hx hb dJx4a65c_fastRemove_b59b0_17 rfl hl (by decide) rfl (fun ls hl => ?_)
    refine lv_iload_n hx hb dJx4a65c_fastRemove_b59b0_18 rfl (lv_at hl 3 rfl) ?_
    refine lv_icmp_le (tgt := 34) hx hb dJx4a65c_fastRemove_b59b0_19 (by decide) (fun c_16 => ?_) (fun c_16 => ?_)
    · skip
      have c_16' : z_15.toInt ≤ a2.toInt := jb_le (rfl) (rfl) c_16
      refine lv_aload_n hx hb dJx4a65c_fastRemove_b59b0_34 rfl (lv_at hl 2 rfl) ?_
      refine lv_aload_n hx hb dJx4a65c_fastRemove_b59b0_35 rfl (lv_at hl 1 rfl) ?_
      refine lv_iload_n hx hb dJx4a65c_fastRemove_b59b0_36 rfl (lv_at hl 0 rfl) ?_
      refine lv_dup_x1 hx hb dJx4a65c_fastRemove_b59b0_37 rfl rfl ?_
      have hd_18 := hh_14.iv 0 rfl
      have hh_19 := hh_14.sub (L1 := [(r0, 1, 0, .int z_10), (r0, 1, 1, .ref r1), (r0, 1, 2, .int lz)]) [0, 1, 2] rfl (M1 := []) [] rfl (I1 := [([(221, 0)], jQc dC dI (ca 9) r1 n1 lf_2), (jFl, jLs dC dI ca G0 3 (some r0))]) [1, 2] rfl
      clear hh_14
      have hd_20 := hh_19.iv 1 rfl
      have hh_21 := hh_19.sub (L1 := [(r0, 1, 0, .int z_10), (r0, 1, 1, .ref r1), (r0, 1, 2, .int lz)]) [0, 1, 2] rfl (M1 := []) [] rfl (I1 := [([(221, 0)], jQc dC dI (ca 9) r1 n1 lf_2)]) [0] rfl
      clear hh_19
      refine j7_putX hx hb hown hK hh_21 hB hAp hB1 (C := RJx4a65c) (T := TJx4a65c) (N := 3) rfl (by decide) hg_r0 (i := 2) (by decide) hly_1_2 rfl hlk_48 rfl (ty := .int) (v := .int z_15) (by decide +kernel) rfl rfl (⟨_, rfl, by omega, by omega⟩) rfl (L1 := [(r0, 1, 0, .int z_10), (r0, 1, 1, .ref r1)]) [0, 1] rfl rfl rfl dJx4a65c_fastRemove_b59b0_38 (fun H_17 locs_17 hr_17 hh_17 => ?_)
      clear hh_21
      have hd_20n := jLs.fld hd_20 hg_r0 hr_17
      have hh_22 := hh_17.addI (jLs.ie hd_20n)
      clear hh_17
      have hd_18n := jOw.put hd_18 hr_17
      have hh_23 := hh_22.addI (jOw.ie (dC := dC) (dI := dI) (G0 := G0) (k := 1) (r := r0) (H0 := s.heap) (F := [(1, 0), (1, 1), (1, 2)]) (C := RJx4a65c) (T := TJx4a65c) (N := 3) rfl (by decide) hh_22.2.2.2.2.1 (hd_18n))
      clear hh_22
      clear hd_18 hd_18n
      clear hd_20 hd_20n hr_17
      refine lv_null hx hb dJx4a65c_fastRemove_b59b0_41 ?_
      have hd_25 := hh_23.iv 2 rfl
      have hd_26 := hh_23.iv 1 rfl
      have hh_28 := hh_23.sub (L1 := [(r0, 1, 2, .int z_15), (r0, 1, 0, .int z_10), (r0, 1, 1, .ref r1)]) [0, 1, 2] rfl (M1 := []) [] rfl (I1 := [([(1, 0), (1, 1), (1, 2)], jOw (dC, dI) G0 1 r0 s.heap)]) [0] rfl
      clear hh_23
      refine j7_qastNO hx hb hK7.1 hh_28 hB hB221 0 rfl (by decide) (by decide) rfl rfl rfl hg_r1 (x := z_15.toInt) (rfl) (by omega) (Or.inl rfl) hd_25 dJx4a65c_fastRemove_b59b0_42 (fun H_24 locs_24 fq_27 hv_24 ho_24 hq_24 hr_24 hh_24 => ?_)
      clear hh_28
      have hd_26n := jLs.arr hd_26 hg_r0 hg_r1 hr_24
      have hh_29 := hh_24.addI (jLs.ie hd_26n)
      clear hh_24
      have hh_30 := hh_29.addI (hq_24.ie hg_r1 (by decide) (by decide))
      clear hh_29
      clear hd_25 hd_26 hd_26n hr_24
      have hd_31 := jLs.full (hh_30.iv 1 rfl) hg_r0 ⟨_, _, hh_30.at 0 rfl, hh_30.at 2 rfl, ⟨by omega, (show _ ≤ (3 : Int) by omega)⟩, Or.inr ⟨_, _, hg_r1, by omega, by omega, hh_30.iv 0 rfl, by first | exact jRm.copy hl8_2 (by omega) (by omega) (zz_none) (by omega) (by omega) (by omega) ho_24 | exact jRm.last hl8_2 (by omega) (by omega) ho_24⟩⟩
      have hh_32 := hh_30.sub (L1 := [(r0, 1, 2, .int z_15), (r0, 1, 0, .int z_10), (r0, 1, 1, .ref r1)]) [0, 1, 2] rfl (M1 := []) [] rfl (I1 := [([(221, 0)], jQc dC dI (ca 9) r1 n1 fq_27), ([(1, 0), (1, 1), (1, 2)], jOw (dC, dI) G0 1 r0 s.heap)]) [0, 2] rfl
      clear hh_30
      have hh_33 := hh_32.addI (jLs.ie hd_31)
      clear hh_32
      rw [hQ]
      exact W.vret hx hb hr (fun t ht hW => ⟨⟨z_15, rfl, by first | omega | rfl | assumption | decide | exact Or.inl rfl | exact Or.inr rfl | (simp only; omega), ⟨⟨hh_33.rt (M1 := [(r0, 1, 2, .int z_15)]) [0] rfl ht, by rw [ht]; exact hh_33.iv 2 rfl⟩, by rw [ht]; exact hh_33.2.2.2.2.2.2.2.2.sub (L1 := [(jFl, jLs dC dI ca G0 3 none)]) [0] rfl⟩⟩, by rw [ht]; try exact hh_33.1.1, fun q h9 hq => by rw [ht]; try exact hh_33.1.2.1 q h9 hq⟩) hh_33.1.2.2 dJx4a65c_fastRemove_b59b0_43
    · skip
      have c_16' : z_15.toInt > a2.toInt := jb_le_n (rfl) (rfl) c_16
      refine lv_aload_n hx hb dJx4a65c_fastRemove_b59b0_22 rfl (lv_at hl 2 rfl) ?_
      refine lv_iload_n hx hb dJx4a65c_fastRemove_b59b0_23 rfl (lv_at hl 3 rfl) ?_
      refine lv_iconst (v := 1) hx hb dJx4a65c_fastRemove_b59b0_24 (by decide) ?_
      refine lv_iadd hx hb dJx4a65c_fastRemove_b59b0_25 ?_
      refine lv_topi (fun z_34 ez_34 => ?_)
      have hz_34 : z_34.toInt = a2.toInt + 1 := by rw [ez_34]; exact jb_iadd2 (rfl) ((by decide)) (by omega)
      refine lv_aload_n hx hb dJx4a65c_fastRemove_b59b0_26 rfl (lv_at hl 2 rfl) ?_
      refine lv_iload_n hx hb dJx4a65c_fastRemove_b59b0_27 rfl (lv_at hl 3 rfl) ?_
      refine lv_iload_n hx hb dJx4a65c_fastRemove_b59b0_28 rfl (lv_at hl 0 rfl) ?_
      refine lv_iload_n hx hb dJx4a65c_fastRemove_b59b0_29 rfl (lv_at hl 3 rfl) ?_
      refine lv_isub hx hb dJx4a65c_fastRemove_b59b0_30 ?_
      refine lv_topi (fun z_35 ez_35 => ?_)
      have hz_35 : z_35.toInt = z_15.toInt - a2.toInt := by rw [ez_35]; exact jb_isub2 (rfl) (rfl) (by omega)
      have hd_37 := hh_14.iv 1 rfl
      have hd_38 := hh_14.iv 1 rfl
      have hd_39 := hh_14.iv 2 rfl
      have hh_41 := hh_14.sub (L1 := [(r0, 1, 0, .int z_10), (r0, 1, 1, .ref r1), (r0, 1, 2, .int lz)]) [0, 1, 2] rfl (M1 := []) [] rfl (I1 := [([(1, 0), (1, 1), (1, 2)], jOw (dC, dI) G0 1 r0 s.heap)]) [0] rfl
      clear hh_14
      refine j7_qcopy hx hb (by rw [hml]; exact hl.1.symm) hown (htw (.methodLink RJx4a65c 112 arraycopyName) (jWr_42 _ (List.mem_of_getElem? (i := 15) rfl))) (htw (.native arraycopyName) (jWr_16 _ (List.mem_of_getElem? (i := 19) rfl))) (htw (.static arraycopyName) (jWr_16 _ (List.mem_of_getElem? (i := 20) rfl))) (htw (.initialized "java/lang/System") (jWr_16 _ (List.mem_of_getElem? (i := 21) rfl))) hK hK7.1 hh_41 hB hB221 0 rfl (by decide) (by decide) rfl rfl rfl hg_r1 hg_r1 hd_38 hd_37 hB3 (T := TX1) (N := 17) rfl (by decide) hK7.2.2.1.1.1 (x := z_34.toInt) (y := a2.toInt) (z := z_35.toInt) rfl rfl rfl (by omega) (by rw [← hR]; exact Nat.le_of_ble_eq_true rfl) (by rw [← hR]; exact Nat.le_of_ble_eq_true rfl) dJx4a65c_fastRemove_b59b0_31 (fun H_36 locs_36 fq_40 hc_36 hq_36 hr_36 hh_36 => ?_)
      clear hh_41
      have hd_39n := jLs.arr hd_39 hg_r0 hg_r1 hr_36
      have hh_42 := hh_36.addI (jLs.ie hd_39n)
      clear hh_36
      have hh_43 := hh_42.addI (hq_36.ie hg_r1 (by decide) (by decide))
      clear hh_42
      refine lv_aload_n hx hb dJx4a65c_fastRemove_b59b0_34 rfl (lv_at hl 2 rfl) ?_
      refine lv_aload_n hx hb dJx4a65c_fastRemove_b59b0_35 rfl (lv_at hl 1 rfl) ?_
      refine lv_iload_n hx hb dJx4a65c_fastRemove_b59b0_36 rfl (lv_at hl 0 rfl) ?_
      refine lv_dup_x1 hx hb dJx4a65c_fastRemove_b59b0_37 rfl rfl ?_
      have hd_45 := hh_43.iv 2 rfl
      have hh_46 := hh_43.sub (L1 := [(r0, 1, 0, .int z_10), (r0, 1, 1, .ref r1), (r0, 1, 2, .int lz)]) [0, 1, 2] rfl (M1 := []) [] rfl (I1 := [([(221, 0)], jQc dC dI (ca 9) r1 n1 fq_40), (jFl, jLs dC dI ca G0 3 (some r0))]) [0, 1] rfl
      clear hh_43
      have hd_47 := hh_46.iv 1 rfl
      have hh_48 := hh_46.sub (L1 := [(r0, 1, 0, .int z_10), (r0, 1, 1, .ref r1), (r0, 1, 2, .int lz)]) [0, 1, 2] rfl (M1 := []) [] rfl (I1 := [([(221, 0)], jQc dC dI (ca 9) r1 n1 fq_40)]) [0] rfl
      clear hh_46
      refine j7_putX hx hb hown hK hh_48 hB hAp hB1 (C := RJx4a65c) (T := TJx4a65c) (N := 3) rfl (by decide) hg_r0 (i := 2) (by decide) hly_1_2 rfl hlk_48 rfl (ty := .int) (v := .int z_15) (by decide +kernel) rfl rfl (⟨_, rfl, by omega, by omega⟩) rfl (L1 := [(r0, 1, 0, .int z_10), (r0, 1, 1, .ref r1)]) [0, 1] rfl rfl rfl dJx4a65c_fastRemove_b59b0_38 (fun H_44 locs_44 hr_44 hh_44 => ?_)
      clear hh_48
      have hd_47n := jLs.fld hd_47 hg_r0 hr_44
      have hh_49 := hh_44.addI (jLs.ie hd_47n)
      clear hh_44
      have hd_45n := jOw.put hd_45 hr_44
      have hh_50 := hh_49.addI (jOw.ie (dC := dC) (dI := dI) (G0 := G0) (k := 1) (r := r0) (H0 := s.heap) (F := [(1, 0), (1, 1), (1, 2)]) (C := RJx4a65c) (T := TJx4a65c) (N := 3) rfl (by decide) hh_49.2.2.2.2.1 (hd_45n))
      clear hh_49
      clear hd_45 hd_45n
      clear hd_47 hd_47n hr_44
      refine lv_null hx hb dJx4a65c_fastRemove_b59b0_41 ?_
      have hd_52 := hh_50.iv 2 rfl
      have hd_53 := hh_50.iv 1 rfl
      have hh_55 := hh_50.sub (L1 := [(r0, 1, 2, .int z_15), (r0, 1, 0, .int z_10), (r0, 1, 1, .ref r1)]) [0, 1, 2] rfl (M1 := []) [] rfl (I1 := [([(1, 0), (1, 1), (1, 2)], jOw (dC, dI) G0 1 r0 s.heap)]) [0] rfl
      clear hh_50
      refine j7_qastNO hx hb hK7.1 hh_55 hB hB221 0 rfl (by decide) (by decide) rfl rfl rfl hg_r1 (x := z_15.toInt) (rfl) (by omega) (Or.inl rfl) hd_52 dJx4a65c_fastRemove_b59b0_42 (fun H_51 locs_51 fq_54 hv_51 ho_51 hq_51 hr_51 hh_51 => ?_)
      clear hh_55
      have hd_53n := jLs.arr hd_53 hg_r0 hg_r1 hr_51
      have hh_56 := hh_51.addI (jLs.ie hd_53n)
      clear hh_51
      have hh_57 := hh_56.addI (hq_51.ie hg_r1 (by decide) (by decide))
      clear hh_56
      clear hd_52 hd_53 hd_53n hr_51
      have hd_58 := jLs.full (hh_57.iv 1 rfl) hg_r0 ⟨_, _, hh_57.at 0 rfl, hh_57.at 2 rfl, ⟨by omega, (show _ ≤ (3 : Int) by omega)⟩, Or.inr ⟨_, _, hg_r1, by omega, by omega, hh_57.iv 0 rfl, by first | exact jRm.copy hl8_2 (by omega) (by omega) hc_36 (by omega) (by omega) (by omega) ho_51 | exact jRm.last hl8_2 (by omega) (by omega) ho_51⟩⟩
      have hh_59 := hh_57.sub (L1 := [(r0, 1, 2, .int z_15), (r0, 1, 0, .int z_10), (r0, 1, 1, .ref r1)]) [0, 1, 2] rfl (M1 := []) [] rfl (I1 := [([(221, 0)], jQc dC dI (ca 9) r1 n1 fq_54), ([(1, 0), (1, 1), (1, 2)], jOw (dC, dI) G0 1 r0 s.heap)]) [0, 2] rfl
      clear hh_57
      have hh_60 := hh_59.addI (jLs.ie hd_58)
      clear hh_59
      rw [hQ]
      exact W.vret hx hb hr (fun t ht hW => ⟨⟨z_15, rfl, by first | omega | rfl | assumption | decide | exact Or.inl rfl | exact Or.inr rfl | (simp only; omega), ⟨⟨hh_60.rt (M1 := [(r0, 1, 2, .int z_15)]) [0] rfl ht, by rw [ht]; exact hh_60.iv 2 rfl⟩, by rw [ht]; exact hh_60.2.2.2.2.2.2.2.2.sub (L1 := [(jFl, jLs dC dI ca G0 3 none)]) [0] rfl⟩⟩, by rw [ht]; try exact hh_60.1.1, fun q h9 hq => by rw [ht]; try exact hh_60.1.2.1 q h9 hq⟩) hh_60.1.2.2 dJx4a65c_fastRemove_b59b0_43
set_option maxHeartbeats 4000000 in
set_option maxRecDepth 20000 in
theorem uJx4a65c_remove_915e3L1 (l : Launch) (dC : Nat → ClassId) (dI : Nat → Nat → Nat) (ca : Nat → ClassId) (base : Nat) (B : jF) (hB : jBok B) (hAp : jAp (dC, dI)) (hB1 : ∀ n G a H, B 1 n G a H ↔ jOb (dC, dI) 1 3 (F1 n G) a H) (hB3 : ∀ n G a H, B 3 n G a H ↔ jOb (dC, dI) 3 17 (F3 n G) a H) (hB221 : ∀ n G a H, B 221 n G a H ↔ jAq (dC, dI) (ca 9) (jQn 3 0) n G a H) (G0 : jT) (H0 : Heap) (r0 : Nat) (a1 : Int32) (lz : Int32) : Met l yJx4a65c_remove_915e3 (jw yJx4a65c_remove_915e3 cJx4a65c_remove_915e3 4 (some (.object "java/lang/Object"))) ({ frames := 2, cells := 0, slots := 0, locals := 84 }) (va_Pc [.ref r0, .int a1] (fun U => U.heap = H0 ∧ jX B base G0 [] H0 ∧ jG dC dI ca base U ∧ jK7 dC dI ca base U ∧ G0 r0 = some (1, 1) ∧ jP (dC, dI) G0 H0 [(r0, 1, 2, .int lz)] ∧ jIs (dC, dI) G0 H0 [(jFl, jLs dC dI ca G0 3 none)] ∧ 0 ≤ a1.toInt ∧ a1.toInt < lz.toInt)) (jQx (S := Int32) (fun v u => jRf G0 3 0 v ∧ u.toInt = lz.toInt - 1) (fun u t => ((jRt (dC, dI) B base G0 EJx4a65c_remove_915e3L1 H0 [(r0, 1, 2, .int u)] t.heap) ∧ jOw (dC, dI) G0 1 r0 H0 t.heap) ∧ jIs (dC, dI) G0 t.heap [(jFl, jLs dC dI ca G0 3 none)]) (jA base)) 0 0 (jA base) := by
  refine Met.ofW (cc := cJx4a65c_remove_915e3) (maxL := 4) (ret := (some (.object "java/lang/Object"))) (by decide) rfl ?_
  intro p e s m args below meth c s₁ Bd hml hv
  obtain ⟨rfl, hH0, hX, hG, hK7, hg_r0, hP0, hI0, hp0, hp1⟩ := hv
  have hK := hG.1
  have hx := Bd.exec
  have hb := Bd.bytes
  have hr := Bd.returns
  have hts := atoms_spec (ws := (jw yJx4a65c_remove_915e3 cJx4a65c_remove_915e3 4 (some (.object "java/lang/Object")))) Bd.pre
  have htw : ∀ w ∈ jWl, w.before _ s = true := fun w h => hts w (List.mem_cons_of_mem _ h)
  have hown : s.vm.findClass RJx4a65c = some m.cls := findClass_of_methodNamed Bd.named
  have hlocks := Bd.notSynchronized
  obtain ⟨Q, hQ⟩ : ∃ Q, Q = MQ below (jQx (S := Int32) (fun v u => jRf G0 3 0 v ∧ u.toInt = lz.toInt - 1) (fun u t => ((jRt (dC, dI) B base G0 EJx4a65c_remove_915e3L1 H0 [(r0, 1, 2, .int u)] t.heap) ∧ jOw (dC, dI) G0 1 r0 H0 t.heap) ∧ jIs (dC, dI) G0 t.heap [(jFl, jLs dC dI ca G0 3 none)]) (jA base)) ([.ref r0, .int a1] : List Value).toArray s 0 0 (jA base) := ⟨_, rfl⟩
  rw [← hQ]
  have hl := lv_entry ([.ref r0, .int a1]) (n := 4) (Nat.le_of_ble_eq_true rfl)
  rw [lg_entry_eq]
  generalize (lg_sl ([.ref r0, .int a1]) ++ List.replicate (4 - (lg_sl ([.ref r0, .int a1])).length) Slot.unset).toArray = ls at hl ⊢
  have hl : lv_has ls 4 [(0, .ref r0), (1, .int a1)] := hl
  generalize hR : (headSpec (jw yJx4a65c_remove_915e3 cJx4a65c_remove_915e3 4 (some (.object "java/lang/Object"))) ({ frames := 2, cells := 0, slots := 0, locals := 84 })).room = R
  subst hH0
  have hh : jSt (dC, dI) B base G0 G0 EJx4a65c_remove_915e3L1 s.heap 0 0 [(r0, 1, 2, .int lz)] [] [(jFl, jLs dC dI ca G0 3 none)] s.heap [] := jSt.start hX hP0 jMc.nil hI0
  clear hX hP0
  have hk0 : (0 : Int32).toInt = 0 := by decide
  have hk1 : (1 : Int32).toInt = 1 := by decide
  have hly_1_1 := htw (u_lay RJx4a65c TJx4a65c 1) (jWc_wsJx4a65c0 _ (u_in_lay (by decide)))
  have hly_1_2 := htw (u_lay RJx4a65c TJx4a65c 2) (jWc_wsJx4a65c0 _ (u_in_lay (by decide)))
  have hlk_48 := (htw (.fieldLink RJx4a65c 48 "java/util/ArrayList" "size" "I") (jWr_28 _ (List.mem_of_getElem? (i := 2) rfl)))
  have hlk_9 := (htw (.fieldLink RJx4a65c 9 "java/util/ArrayList" "elementData" "[Ljava/lang/Object;") (jWr_9 _ (List.mem_of_getElem? (i := 15) rfl)))
  have hrg_a1 := jb_rng a1
  have hh_1 := hh.addI (jOw.ie (dC := dC) (dI := dI) (G0 := G0) (k := 1) (r := r0) (H0 := s.heap) (F := [(1, 0), (1, 1), (1, 2)]) (C := RJx4a65c) (T := TJx4a65c) (N := 3) rfl (by decide) hh.2.2.2.2.1 (jOw.rf))
  clear hh
  obtain ⟨lz_2, lx_2, hl1_2, hl2_2, hl3_2, hl4_2⟩ := jLs.at (hh_1.iv 1 rfl) hg_r0
  obtain rfl : lz = lz_2 := Value.int.inj (jf.uniq (hh_1.at 0 rfl) hl1_2)
  have hl3_2 : 0 ≤ lz.toInt ∧ lz.toInt ≤ 3 := hl3_2
  rcases hl4_2 with ⟨rfl, hl5_2⟩ | ⟨lm_2, lf_2, hg_lx_2, hlm_2, hl6_2, hl7_2, hl8_2⟩
  · skip
    exact (by omega : False).elim
  · skip
    have hh_3 := hh_1.more (P1 := [(r0, 1, 1, .ref lx_2)]) (jP.cons hg_r0 hl2_2 jP.nil)
    clear hh_1
    have hh_4 := hh_3.addI (jQc.ie hl7_2 hg_lx_2 (by decide) (by decide))
    clear hh_3
    refine lv_iload_n hx hb dJx4a65c_remove_915e3_0 rfl (lv_at hl 1 rfl) ?_
    refine lv_aload_n hx hb dJx4a65c_remove_915e3_1 rfl (lv_at hl 0 rfl) ?_
    refine j7_read hx hb hown hK (C := RJx4a65c) (T := TJx4a65c) (N := 3) rfl hly_1_2 hlk_48 (hh_4.at 1 rfl) dJx4a65c_remove_915e3_2 ?_
    refine va_calli (A0 := jA base) (H0 := s.heap) (va_runS (As := [.int a1, .int lz]) (rest := []) ⟨hx, hb, hml, hown, hts⟩ (uJ15_checkIndex_7cf53 l dC dI ca base B hB hAp G0 s.heap a1 lz) (va_cwS 2 hts (jgS (jWr_28 _ (List.mem_of_getElem? (i := 7) rfl)) (jWr_28 _ (List.mem_of_getElem? (i := 8) rfl)) (jWr_28 _ (List.mem_of_getElem? (i := 9) rfl)) (jWr_28 _ (List.mem_of_getElem? (i := 10) rfl))) rfl rfl rfl (by decide +kernel) ⟨by rw [← hR]; exact Nat.le_of_ble_eq_true rfl, by rw [← hR]; exact Nat.le_of_ble_eq_true rfl⟩) ⟨fun a U g mk q => by obtain ⟨q0, q1, q2, qK, q10, q11⟩ := q; exact ⟨q0, q1, q2, jG.calling g mk a qK, q10, q11⟩, fun U hU hW => ⟨rfl, hU, hh_4.2.1, hG.step hW hU hh_4.1, jP.nil, by first | omega | (refine ⟨?_, ?_⟩ <;> (first | omega | rfl | assumption | decide | exact Or.inl rfl | exact Or.inr rfl | (simp only; omega)))⟩⟩ rfl rfl hl.1 rfl (lv_room (Nat.le_of_ble_eq_true rfl)) dJx4a65c_remove_915e3_5 ⟨Nat.zero_le _, Nat.zero_le _⟩) hh_4.1 (fun q _ h => h) (fun q h => h) (fun r_6 u_5 t_5 H_5 locs_5 ht_5 hvm_5 hr_6 hb_5 hz_5 hk_5 hS_5 => ?_)
    rw [ht_5] at hb_5
    obtain ⟨hb_51, hb_52, hb_53, hb_54, hb_55⟩ := hb_5
    have hh_5 : jSt (dC, dI) B base G0 G0 EJx4a65c_remove_915e3L1 s.heap 0 0 [(r0, 1, 1, .ref lx_2), (r0, 1, 2, .int lz)] [] [([(221, 0)], jQc dC dI (ca 9) lx_2 lm_2 lf_2), ([(1, 0), (1, 1), (1, 2)], jOw (dC, dI) G0 1 r0 s.heap), (jFl, jLs dC dI ca G0 3 none)] H_5 locs_5 := ((hh_4.call hb_51 hb_52 hb_53 hb_54 hS_5 rfl (L1 := [(r0, 1, 1, .ref lx_2), (r0, 1, 2, .int lz)]) [0, 1] rfl rfl (M1 := []) [] rfl rfl (I1 := [([(221, 0)], jQc dC dI (ca 9) lx_2 lm_2 lf_2), ([(1, 0), (1, 1), (1, 2)], jOw (dC, dI) G0 1 r0 s.heap), (jFl, jLs dC dI ca G0 3 none)]) [0, 1, 2] rfl rfl).more hb_55)
    clear hh_4 ht_5 hvm_5 hz_5 hk_5 hS_5 hb_51 hb_52 hb_53 hb_54 hb_55
    refine lv_pop hx hb dJx4a65c_remove_915e3_8 rfl ?_
    refine lv_aload_n hx hb dJx4a65c_remove_915e3_9 rfl (lv_at hl 0 rfl) ?_
    refine j7_read hx hb hown hK (C := RJx4a65c) (T := TJx4a65c) (N := 3) rfl hly_1_1 hlk_9 (hh_5.at 0 rfl) dJx4a65c_remove_915e3_10 ?_
    refine lv_astore_n (lv' := [(2, .ref lx_2), (0, .ref r0), (1, .int a1)]) hx hb dJx4a65c_remove_915e3_13 rfl hl (by decide) rfl (fun ls hl => ?_)
    refine lv_aload_n hx hb dJx4a65c_remove_915e3_14 rfl (lv_at hl 0 rfl) ?_
    refine lv_iload_n hx hb dJx4a65c_remove_915e3_15 rfl (lv_at hl 2 rfl) ?_
    refine j7_qaldI hx hb hK7.1 hh_5 hB221 0 rfl (by decide) hg_lx_2 (x := a1.toInt) (rfl) (by omega) (hh_5.iv 0 rfl) dJx4a65c_remove_915e3_16 (fun o_7 ho_7 heo_7 => ?_)
    rcases ho_7 with rfl | ⟨el_8, rfl, hg_el_8⟩
    · simp only [va_rf]
      exact absurd heo_7.symm (hl8_2 _ (by omega))
    · simp only [va_rf]
      refine lv_astore_n (lv' := [(3, .ref el_8), (2, .ref lx_2), (0, .ref r0), (1, .int a1)]) hx hb dJx4a65c_remove_915e3_17 rfl hl (by decide) rfl (fun ls hl => ?_)
      refine lv_aload_n hx hb dJx4a65c_remove_915e3_18 rfl (lv_at hl 2 rfl) ?_
      refine lv_aload_n hx hb dJx4a65c_remove_915e3_19 rfl (lv_at hl 1 rfl) ?_
      refine lv_iload_n hx hb dJx4a65c_remove_915e3_20 rfl (lv_at hl 3 rfl) ?_
      refine va_callv (A0 := jA base) (H0 := s.heap) (va_runV (As := [.ref lx_2, .int a1]) (rest := []) ⟨hx, hb, hml, hown, hts⟩ (uJx4a65c_fastRemove_b59b0L1 l dC dI ca base B hB hAp hB1 hB3 hB221 G0 H_5 r0 lx_2 a1 lm_2 lz) (cwV 2 hts (jgV (jWr_42 _ (List.mem_of_getElem? (i := 11) rfl)) (jWr_42 _ (List.mem_of_getElem? (i := 12) rfl)) (jWr_42 _ (List.mem_of_getElem? (i := 13) rfl)) (jWr_2 _ (List.mem_of_getElem? (i := 13) rfl)) (jWr_42 _ (List.mem_of_getElem? (i := 14) rfl))) rfl rfl rfl (by decide +kernel) ⟨by rw [← hR]; exact Nat.le_of_ble_eq_true rfl, by rw [← hR]; exact Nat.le_of_ble_eq_true rfl⟩) ⟨fun a U g mk q => by obtain ⟨q0, q1, q2, qK, q10, q11, q12, q13, q14, q15⟩ := q; exact ⟨q0, q1, q2, jG.calling g mk a qK, (jK7.calling g mk a q10), q11, q12, q13, q14, q15⟩, hh_5.recv (C := RJx4a65c) (T := TJx4a65c) (N := 3) hB1 rfl (by decide) hg_r0 hK, fun U hU hW => ⟨rfl, hU, hh_5.2.1, hG.step hW hU hh_5.1, (hK7.step hW hU hh_5.1), hg_r0, hg_lx_2, (hh_5.2.2.1.sub (L1 := [(r0, 1, 1, .ref lx_2), (r0, 1, 2, .int lz)]) [0, 1] rfl), (hh_5.2.2.2.2.2.2.2.2.sub (L1 := [(jFl, jLs dC dI ca G0 3 none)]) [2] rfl), by first | omega | (refine ⟨?_, ?_⟩ <;> (first | omega | rfl | assumption | decide | exact Or.inl rfl | exact Or.inr rfl | (simp only; omega)))⟩⟩ rfl rfl hl.1 rfl (lv_room (Nat.le_of_ble_eq_true rfl)) dJx4a65c_remove_915e3_21 ⟨Nat.zero_le _, Nat.zero_le _⟩) hh_5.1 (fun q _ h => h) (fun q h => h) (fun u_9 t_9 H_9 locs_9 ht_9 hvm_9 hr_10 hb_9 hz_9 hk_9 hS_9 => ?_)
      obtain ⟨qz_9, rfl⟩ : ∃ z, z = u_9 := ⟨_, rfl⟩
      rw [ht_9] at hb_9
      obtain ⟨hb_9, hbE_9⟩ := hb_9
      obtain ⟨hb_9, hbO_9⟩ := hb_9
      obtain ⟨hb_91, hb_92, hb_93, hb_94, hb_95⟩ := hb_9
      have hh_9 : jSt (dC, dI) B base G0 G0 EJx4a65c_remove_915e3L1 s.heap 0 0 [(r0, 1, 2, .int qz_9), (r0, 1, 1, .ref lx_2)] [] [(jFl, jLs dC dI ca G0 3 none)] H_9 locs_9 := (((hh_5.call hb_91 hb_92 hb_93 hb_94 hS_9 rfl (L1 := [(r0, 1, 1, .ref lx_2)]) [0] rfl rfl (M1 := []) [] rfl rfl (I1 := []) [] rfl rfl).more hb_95)).addIs hbE_9
      have hd_11 := jOw.tr (hh_5.iv 1 rfl) hh_5.2.2.2.2.1 hbO_9
      have hh_12 := hh_9.addI (jOw.ie (dC := dC) (dI := dI) (G0 := G0) (k := 1) (r := r0) (H0 := s.heap) (F := [(1, 0), (1, 1), (1, 2)]) (C := RJx4a65c) (T := TJx4a65c) (N := 3) rfl (by decide) hh_9.2.2.2.2.1 (hd_11))
      clear hh_9
      clear hh_5 ht_9 hvm_9 hz_9 hk_9 hS_9 hb_91 hb_92 hb_93 hb_94 hb_95
      clear  hbE_9
      refine lv_aload_n hx hb dJx4a65c_remove_915e3_24 rfl (lv_at hl 0 rfl) ?_
      rw [hQ]
      exact W.aret (v := .ref el_8) hx hb hr (Or.inl ⟨_, rfl⟩) (Or.inr ⟨_, rfl⟩) (fun t ht hW => ⟨⟨.ref el_8, qz_9, rfl, ⟨⟨_, rfl, hg_el_8⟩, by first | omega | rfl | assumption | decide | exact Or.inl rfl | exact Or.inr rfl | (simp only; omega)⟩, ⟨⟨hh_12.rt (M1 := [(r0, 1, 2, .int qz_9)]) [0] rfl ht, by rw [ht]; exact hh_12.iv 0 rfl⟩, by rw [ht]; exact hh_12.2.2.2.2.2.2.2.2.sub (L1 := [(jFl, jLs dC dI ca G0 3 none)]) [1] rfl⟩⟩, by rw [ht]; try exact hh_12.1.1, fun q h9 hq => by rw [ht]; try exact hh_12.1.2.1 q h9 hq⟩) hh_12.1.2.2 dJx4a65c_remove_915e3_25
end
section
theorem dX11_numberOf_0 : decode cX11_numberOf 0 = .ok (.iconst 0, 1) := by decide +kernel
theorem dX11_numberOf_1 : decode cX11_numberOf 1 = .ok (.istore_n 2, 1) := by decide +kernel
theorem dX11_numberOf_2 : decode cX11_numberOf 2 = .ok (.iload_n 2, 1) := by decide +kernel
theorem dX11_numberOf_3 : decode cX11_numberOf 3 = .ok (.aload_n 0, 1) := by decide +kernel
theorem dX11_numberOf_4 : decode cX11_numberOf 4 = .ok (.getfield 61, 3) := by decide +kernel
theorem dX11_numberOf_7 : decode cX11_numberOf 7 = .ok (.invokeinterface 142 1, 5) := by decide +kernel
theorem dX11_numberOf_12 : decode cX11_numberOf 12 = .ok (.if_icmp .ge 25, 3) := by decide +kernel
theorem dX11_numberOf_15 : decode cX11_numberOf 15 = .ok (.aload_n 0, 1) := by decide +kernel
theorem dX11_numberOf_16 : decode cX11_numberOf 16 = .ok (.getfield 61, 3) := by decide +kernel
theorem dX11_numberOf_19 : decode cX11_numberOf 19 = .ok (.iload_n 2, 1) := by decide +kernel
theorem dX11_numberOf_20 : decode cX11_numberOf 20 = .ok (.invokeinterface 249 2, 5) := by decide +kernel
theorem dX11_numberOf_25 : decode cX11_numberOf 25 = .ok (.aload_n 1, 1) := by decide +kernel
theorem dX11_numberOf_26 : decode cX11_numberOf 26 = .ok (.if_acmp .ne 5, 3) := by decide +kernel
theorem dX11_numberOf_29 : decode cX11_numberOf 29 = .ok (.iload_n 2, 1) := by decide +kernel
theorem dX11_numberOf_30 : decode cX11_numberOf 30 = .ok (.ireturn, 1) := by decide +kernel
theorem dX11_numberOf_31 : decode cX11_numberOf 31 = .ok (.iinc 2 1, 3) := by decide +kernel
theorem dX11_numberOf_34 : decode cX11_numberOf 34 = .ok (.goto (-32), 3) := by decide +kernel
theorem dX11_numberOf_37 : decode cX11_numberOf 37 = .ok (.iconst (-1), 1) := by decide +kernel
theorem dX11_numberOf_38 : decode cX11_numberOf 38 = .ok (.ireturn, 1) := by decide +kernel
def EX11_numberOf : List (Nat × Nat) := []
def EX11_numberOfZ : List (Nat × Nat) := []
set_option maxHeartbeats 4000000 in
set_option maxRecDepth 20000 in
theorem uX11_numberOf (l : Launch) (dC : Nat → ClassId) (dI : Nat → Nat → Nat) (ca : Nat → ClassId) (base : Nat) (B : jF) (hB : jBok B) (hAp : jAp (dC, dI)) (hB1 : ∀ n G a H, B 1 n G a H ↔ jOb (dC, dI) 1 3 (F1 n G) a H) (hB3 : ∀ n G a H, B 3 n G a H ↔ jOb (dC, dI) 3 17 (F3 n G) a H) (hB13 : ∀ n G a H, B 13 n G a H ↔ jOb (dC, dI) 13 19 (F13 n G) a H) (hB221 : ∀ n G a H, B 221 n G a H ↔ jAq (dC, dI) (ca 9) (jQn 3 0) n G a H) (G0 : jT) (H0 : Heap) (r0 : Nat) (r1 : Nat) (op : Nat) (sz : Int32) : Met l yX11_numberOf (jw yX11_numberOf cX11_numberOf 3 (some .int)) ({ frames := 3, cells := 0, slots := 0, locals := 64 }) (va_Pc [.ref r0, .ref r1] (fun U => U.heap = H0 ∧ jX B base G0 [] H0 ∧ jG dC dI ca base U ∧ jK7 dC dI ca base U ∧ G0 r0 = some (13, 0) ∧ G0 r1 = some (3, 0) ∧ G0 op = some (1, 1) ∧ jP (dC, dI) G0 H0 [(r0, 13, 7, .ref op), (op, 1, 2, .int sz)] ∧ jIs (dC, dI) G0 H0 [(jFl, jLs dC dI ca G0 3 none)] ∧ 0 ≤ sz.toInt ∧ sz.toInt ≤ 40)) (va_Qi (S := Unit) (fun r u => (-1 ≤ r.toInt ∧ (r.toInt < 0 ∨ r.toInt < sz.toInt))) (fun u t => (jRt (dC, dI) B base G0 EX11_numberOf H0 [] t.heap) ∧ jIs (dC, dI) G0 t.heap [(jFl, jLs dC dI ca G0 3 none)]) (jA base)) 0 0 (jA base) := by
  refine Met.ofW (cc := cX11_numberOf) (maxL := 3) (ret := (some .int)) (by decide) rfl ?_
  intro p e s m args below meth c s₁ Bd hml hv
  obtain ⟨rfl, hH0, hX, hG, hK7, hg_r0, hg_r1, hg_op, hP0, hI0, hp0, hp1⟩ := hv
  have hK := hG.1
  have hx := Bd.exec
  have hb := Bd.bytes
  have hr := Bd.returns
  have hts := atoms_spec (ws := (jw yX11_numberOf cX11_numberOf 3 (some .int))) Bd.pre
  have htw : ∀ w ∈ jWl, w.before _ s = true := fun w h => hts w (List.mem_cons_of_mem _ h)
  have hown : s.vm.findClass RX11 = some m.cls := findClass_of_methodNamed Bd.named
  have hlocks := Bd.notSynchronized
  obtain ⟨Q, hQ⟩ : ∃ Q, Q = MQ below (va_Qi (S := Unit) (fun r u => (-1 ≤ r.toInt ∧ (r.toInt < 0 ∨ r.toInt < sz.toInt))) (fun u t => (jRt (dC, dI) B base G0 EX11_numberOf H0 [] t.heap) ∧ jIs (dC, dI) G0 t.heap [(jFl, jLs dC dI ca G0 3 none)]) (jA base)) ([.ref r0, .ref r1] : List Value).toArray s 0 0 (jA base) := ⟨_, rfl⟩
  rw [← hQ]
  have hl := lv_entry ([.ref r0, .ref r1]) (n := 3) (Nat.le_of_ble_eq_true rfl)
  rw [lg_entry_eq]
  generalize (lg_sl ([.ref r0, .ref r1]) ++ List.replicate (3 - (lg_sl ([.ref r0, .ref r1])).length) Slot.unset).toArray = ls at hl ⊢
  have hl : lv_has ls 3 [(0, .ref r0), (1, .ref r1)] := hl
  generalize hR : (headSpec (jw yX11_numberOf cX11_numberOf 3 (some .int)) ({ frames := 3, cells := 0, slots := 0, locals := 64 })).room = R
  subst hH0
  have hh : jSt (dC, dI) B base G0 G0 EX11_numberOf s.heap 0 0 [(r0, 13, 7, .ref op), (op, 1, 2, .int sz)] [] [(jFl, jLs dC dI ca G0 3 none)] s.heap [] := jSt.start hX hP0 jMc.nil hI0
  clear hX hP0
  have hkm1 : ((-1) : Int32).toInt = (-1) := by decide
  have hk0 : (0 : Int32).toInt = 0 := by decide
  have hk1 : (1 : Int32).toInt = 1 := by decide
  have hly_13_7 := htw (u_lay RX11 TX11 7) (jWc_wsX110 _ (u_in_lay (by decide)))
  have hlk_61 := (htw (.fieldLink RX11 61 "ProofServer" "open" "Ljava/util/List;") (jWr_2 _ (List.mem_of_getElem? (i := 14) rfl)))
  refine lv_iconst (v := 0) hx hb dX11_numberOf_0 (by decide) ?_
  refine lv_istore_n (lv' := [(2, .int 0), (0, .ref r0), (1, .ref r1)]) hx hb dX11_numberOf_1 rfl hl (by decide) rfl (fun ls hl => ?_)
  have L2 : ∀ (N : Nat) (v2_1 : Int32) (H_1 : Heap) (locs_1 : List Loc), jSt (dC, dI) B base G0 G0 EX11_numberOf s.heap 0 0 [(r0, 13, 7, .ref op), (op, 1, 2, .int sz)] [] [(jFl, jLs dC dI ca G0 3 none)] H_1 locs_1 → (0 ≤ v2_1.toInt ∧ v2_1.toInt ≤ 40) → (41 - v2_1.toInt : Int) < N → ∀ ls : Array Slot, lv_has ls 3 [(0, .ref r0), (1, .ref r1), (2, .int v2_1)] → W p l e R s m ([.ref r0, .ref r1] : List Value).toArray below meth c H_1 locs_1 0 0 Q (F0 m 2 ls []) := by
    intro N
    induction N with
    | zero => intro v2_1 H_1 locs_1 hh_1  hi_1 hm; exact absurd hm (by omega)
    | succ N L2 =>
      intro v2_1 H_1 locs_1 hh_1  hi_1 hm_1 ls hl
      obtain ⟨hi_1_0, hi_1_1⟩ := hi_1
      refine lv_iload_n hx hb dX11_numberOf_2 rfl (lv_at hl 2 rfl) ?_
      refine lv_aload_n hx hb dX11_numberOf_3 rfl (lv_at hl 0 rfl) ?_
      refine j7_read hx hb hown hK (C := RX11) (T := TX11) (N := 19) rfl hly_13_7 hlk_61 (hh_1.at 0 rfl) dX11_numberOf_4 ?_
      refine va_callFi (A0 := jA base) (H0 := s.heap) (va_runF (hK.1 1 _ rfl).2 (As := []) (rest := [.int v2_1]) ⟨hx, hb, hml, hown, hts⟩ (uJx4a65c_size_8abf5 l dC dI ca base B hB hAp hB1 G0 H_1 op 1 sz) (va_cwF 0 hts (jgF (jWr_27 _ (List.mem_of_getElem? (i := 22) rfl)) (jWr_27 _ (List.mem_of_getElem? (i := 23) rfl)) (jWr_28 _ (List.mem_of_getElem? (i := 0) rfl)) (jWr_2 _ (List.mem_of_getElem? (i := 13) rfl)) (jWr_28 _ (List.mem_of_getElem? (i := 1) rfl))) rfl rfl rfl hK7.2.2.2.2.2.1.1 ⟨by decide, by decide, by decide +kernel⟩ ⟨by rw [← hR]; exact Nat.le_of_ble_eq_true rfl, by rw [← hR]; exact Nat.le_of_ble_eq_true rfl⟩) ⟨fun a U g mk q => by obtain ⟨q0, q1, q2, qK, q10, q11, q12⟩ := q; exact ⟨q0, q1, q2, jG.calling g mk a qK, q10, q11, q12⟩, hh_1.recv (C := RJx4a65c) (T := TJx4a65c) (N := 3) hB1 rfl (by decide) hg_op hK, fun U hU hW => ⟨rfl, hU, hh_1.2.1, hG.step hW hU hh_1.1, hg_op, (hh_1.2.2.1.sub (L1 := [(op, 1, 2, .int sz)]) [1] rfl), trivial⟩⟩ rfl rfl hl.1 rfl (lv_room (Nat.le_of_ble_eq_true rfl)) dX11_numberOf_7 ⟨Nat.zero_le _, Nat.zero_le _⟩) hh_1.1 (fun q _ h => h) (fun q h => h) (fun r_3 u_2 t_2 H_2 locs_2 ht_2 hvm_2 hr_3 hb_2 hz_2 hk_2 hS_2 => ?_)
      rw [ht_2] at hb_2
      obtain ⟨hb_21, hb_22, hb_23, hb_24, hb_25⟩ := hb_2
      have hh_2 : jSt (dC, dI) B base G0 G0 EX11_numberOf s.heap 0 0 [(r0, 13, 7, .ref op), (op, 1, 2, .int sz)] [] [(jFl, jLs dC dI ca G0 3 none)] H_2 locs_2 := ((hh_1.call hb_21 hb_22 hb_23 hb_24 hS_2 rfl (L1 := [(r0, 13, 7, .ref op), (op, 1, 2, .int sz)]) [0, 1] rfl rfl (M1 := []) [] rfl rfl (I1 := [(jFl, jLs dC dI ca G0 3 none)]) [0] rfl rfl).more hb_25)
      clear hh_1 ht_2 hvm_2 hz_2 hk_2 hS_2 hb_21 hb_22 hb_23 hb_24 hb_25
      refine lv_icmp_ge (tgt := 37) hx hb dX11_numberOf_12 (by decide) (fun c_4 => ?_) (fun c_4 => ?_)
      · skip
        have c_4' : v2_1.toInt ≥ r_3.toInt := jb_ge (rfl) (rfl) c_4
        refine lv_iconst (v := (-1)) hx hb dX11_numberOf_37 (by decide) ?_
        rw [hQ]
        exact W.iret (v := (-1)) hx hb hr (fun t ht hW => ⟨⟨(-1), (), rfl, by first | omega | (refine ⟨?_, ?_⟩ <;> (first | omega | rfl | assumption | decide | exact Or.inl rfl | exact Or.inr rfl | (simp only; omega))), ⟨hh_2.rt (M1 := []) [] rfl ht, by rw [ht]; exact hh_2.2.2.2.2.2.2.2.2.sub (L1 := [(jFl, jLs dC dI ca G0 3 none)]) [0] rfl⟩⟩, by rw [ht]; try exact hh_2.1.1, fun q h9 hq => by rw [ht]; try exact hh_2.1.2.1 q h9 hq⟩) hh_2.1.2.2 dX11_numberOf_38
      · skip
        have c_4' : v2_1.toInt < r_3.toInt := jb_ge_n (rfl) (rfl) c_4
        refine lv_aload_n hx hb dX11_numberOf_15 rfl (lv_at hl 0 rfl) ?_
        refine j7_read hx hb hown hK (C := RX11) (T := TX11) (N := 19) rfl hly_13_7 hlk_61 (hh_2.at 0 rfl) dX11_numberOf_16 ?_
        refine lv_iload_n hx hb dX11_numberOf_19 rfl (lv_at hl 2 rfl) ?_
        refine j_callFx (A0 := jA base) (H0 := s.heap) (va_runF (hK.1 1 _ rfl).2 (As := [.int v2_1]) (rest := []) ⟨hx, hb, hml, hown, hts⟩ (uJx4a65c_get_915e3L1 l dC dI ca base B hB hAp hB1 hB3 hB221 G0 H_2 op v2_1 sz) (va_cwF 1 hts (jgF (jWr_28 _ (List.mem_of_getElem? (i := 3) rfl)) (jWr_28 _ (List.mem_of_getElem? (i := 4) rfl)) (jWr_28 _ (List.mem_of_getElem? (i := 5) rfl)) (jWr_2 _ (List.mem_of_getElem? (i := 13) rfl)) (jWr_28 _ (List.mem_of_getElem? (i := 6) rfl))) rfl rfl rfl hK7.2.2.2.2.2.1.2.1 ⟨by decide, by decide, by decide +kernel⟩ ⟨by rw [← hR]; exact Nat.le_of_ble_eq_true rfl, by rw [← hR]; exact Nat.le_of_ble_eq_true rfl⟩) ⟨fun a U g mk q => by obtain ⟨q0, q1, q2, qK, q10, q11, q12, q13, q14⟩ := q; exact ⟨q0, q1, q2, jG.calling g mk a qK, (jK7.calling g mk a q10), q11, q12, q13, q14⟩, hh_2.recv (C := RJx4a65c) (T := TJx4a65c) (N := 3) hB1 rfl (by decide) hg_op hK, fun U hU hW => ⟨rfl, hU, hh_2.2.1, hG.step hW hU hh_2.1, (hK7.step hW hU hh_2.1), hg_op, (hh_2.2.2.1.sub (L1 := [(op, 1, 2, .int sz)]) [1] rfl), (hh_2.2.2.2.2.2.2.2.2.sub (L1 := [(jFl, jLs dC dI ca G0 3 none)]) [0] rfl), by first | omega | (refine ⟨?_, ?_⟩ <;> (first | omega | rfl | assumption | decide | exact Or.inl rfl | exact Or.inr rfl | (simp only; omega)))⟩⟩ rfl rfl hl.1 rfl (lv_room (Nat.le_of_ble_eq_true rfl)) dX11_numberOf_20 ⟨Nat.zero_le _, Nat.zero_le _⟩) hh_2.1 (fun q _ h => h) (fun q h => h) (fun r_6 u_5 t_5 H_5 locs_5 ht_5 hvm_5 hr_6 hb_5 hz_5 hk_5 hS_5 => ?_)
        rw [ht_5] at hb_5
        obtain ⟨hb_5, hbE_5⟩ := hb_5
        obtain ⟨hb_51, hb_52, hb_53, hb_54, hb_55⟩ := hb_5
        have hh_5 : jSt (dC, dI) B base G0 G0 EX11_numberOf s.heap 0 0 [(r0, 13, 7, .ref op), (op, 1, 2, .int sz)] [] [(jFl, jLs dC dI ca G0 3 none)] H_5 locs_5 := (((hh_2.call hb_51 hb_52 hb_53 hb_54 hS_5 rfl (L1 := [(r0, 13, 7, .ref op), (op, 1, 2, .int sz)]) [0, 1] rfl rfl (M1 := []) [] rfl rfl (I1 := []) [] rfl rfl).more hb_55)).addIs hbE_5
        clear hh_2 ht_5 hvm_5 hz_5 hk_5 hS_5 hb_51 hb_52 hb_53 hb_54 hb_55
        clear  hbE_5
        obtain ⟨ret_7, rfl, hg_ret_7⟩ := hr_6
        refine lv_aload_n hx hb dX11_numberOf_25 rfl (lv_at hl 1 rfl) ?_
        refine lv_acmp_ne (rx := (some ret_7)) (ry := (some r1)) (tgt := 31) hx hb dX11_numberOf_26 (by decide) (fun c_8 => ?_) (fun c_8 => ?_)
        · skip
          obtain ⟨z_9, ez_9⟩ : ∃ y : Int32, y = v2_1 + 1 := ⟨_, rfl⟩
          refine lv_iinc (v := z_9) (lv' := [(2, .int z_9), (0, .ref r0), (1, .ref r1)]) hx hb dX11_numberOf_31 hl (k := 2) rfl (by rw [ez_9]; rfl) (by decide) rfl (fun ls hl => ?_)
          have hz_9 : z_9.toInt = v2_1.toInt + 1 := by rw [ez_9]; exact jb_iadd2 (rfl) (by decide) (by omega)
          refine lv_goto (tgt := 2) hx hb dX11_numberOf_34 (by decide) ?_
          exact L2 z_9 _ _ hh_5 (by first | omega | (refine ⟨?_, ?_⟩ <;> (first | omega | rfl | assumption | decide | exact Or.inl rfl | exact Or.inr rfl | (simp only; omega)))) (by omega) _ (lv_sub hl [1, 2, 0] rfl)
        · skip
          refine lv_iload_n hx hb dX11_numberOf_29 rfl (lv_at hl 2 rfl) ?_
          rw [hQ]
          exact W.iret (v := v2_1) hx hb hr (fun t ht hW => ⟨⟨v2_1, (), rfl, by first | omega | (refine ⟨?_, ?_⟩ <;> (first | omega | rfl | assumption | decide | exact Or.inl rfl | exact Or.inr rfl | (simp only; omega))), ⟨hh_5.rt (M1 := []) [] rfl ht, by rw [ht]; exact hh_5.2.2.2.2.2.2.2.2.sub (L1 := [(jFl, jLs dC dI ca G0 3 none)]) [0] rfl⟩⟩, by rw [ht]; try exact hh_5.1.1, fun q h9 hq => by rw [ht]; try exact hh_5.1.2.1 q h9 hq⟩) hh_5.1.2.2 dX11_numberOf_30
  exact L2 (41 - (0 : Int32).toInt : Int).toNat.succ 0 _ _ hh (by first | omega | (refine ⟨?_, ?_⟩ <;> (first | omega | rfl | assumption | decide | exact Or.inl rfl | exact Or.inr rfl | (simp only; omega)))) (by omega) _ (lv_sub hl [1, 2, 0] rfl)
set_option maxHeartbeats 4000000 in
set_option maxRecDepth 20000 in
theorem uX11_numberOfZ (l : Launch) (dC : Nat → ClassId) (dI : Nat → Nat → Nat) (ca : Nat → ClassId) (base : Nat) (B : jF) (hB : jBok B) (hAp : jAp (dC, dI)) (hB1 : ∀ n G a H, B 1 n G a H ↔ jOb (dC, dI) 1 3 (F1 n G) a H) (hB3 : ∀ n G a H, B 3 n G a H ↔ jOb (dC, dI) 3 17 (F3 n G) a H) (hB13 : ∀ n G a H, B 13 n G a H ↔ jOb (dC, dI) 13 19 (F13 n G) a H) (hB221 : ∀ n G a H, B 221 n G a H ↔ jAq (dC, dI) (ca 9) (jQn 3 0) n G a H) (G0 : jT) (H0 : Heap) (r0 : Nat) : Met l yX11_numberOf (jw yX11_numberOf cX11_numberOf 3 (some .int)) ({ frames := 3, cells := 0, slots := 0, locals := 64 }) (va_Pc [.ref r0, .null] (fun U => U.heap = H0 ∧ jX B base G0 [] H0 ∧ jG dC dI ca base U ∧ jK7 dC dI ca base U ∧ G0 r0 = some (13, 0) ∧ jP (dC, dI) G0 H0 [] ∧ jIs (dC, dI) G0 H0 [(jFl, jLs dC dI ca G0 3 none)] ∧ True)) (va_Qi (S := Unit) (fun r u => (True)) (fun u t => (jRt (dC, dI) B base G0 EX11_numberOfZ H0 [] t.heap) ∧ jIs (dC, dI) G0 t.heap [(jFl, jLs dC dI ca G0 3 none)]) (jA base)) 0 0 (jA base) := by
  refine Met.ofW (cc := cX11_numberOf) (maxL := 3) (ret := (some .int)) (by decide) rfl ?_
  intro p e s m args below meth c s₁ Bd hml hv
  obtain ⟨rfl, hH0, hX, hG, hK7, hg_r0, hP0, hI0, hp0⟩ := hv
  have hK := hG.1
  have hx := Bd.exec
  have hb := Bd.bytes
  have hr := Bd.returns
  have hts := atoms_spec (ws := (jw yX11_numberOf cX11_numberOf 3 (some .int))) Bd.pre
  have htw : ∀ w ∈ jWl, w.before _ s = true := fun w h => hts w (List.mem_cons_of_mem _ h)
  have hown : s.vm.findClass RX11 = some m.cls := findClass_of_methodNamed Bd.named
  have hlocks := Bd.notSynchronized
  obtain ⟨Q, hQ⟩ : ∃ Q, Q = MQ below (va_Qi (S := Unit) (fun r u => (True)) (fun u t => (jRt (dC, dI) B base G0 EX11_numberOfZ H0 [] t.heap) ∧ jIs (dC, dI) G0 t.heap [(jFl, jLs dC dI ca G0 3 none)]) (jA base)) ([.ref r0, .null] : List Value).toArray s 0 0 (jA base) := ⟨_, rfl⟩
  rw [← hQ]
  have hl := lv_entry ([.ref r0, .null]) (n := 3) (Nat.le_of_ble_eq_true rfl)
  rw [lg_entry_eq]
  generalize (lg_sl ([.ref r0, .null]) ++ List.replicate (3 - (lg_sl ([.ref r0, .null])).length) Slot.unset).toArray = ls at hl ⊢
  have hl : lv_has ls 3 [(0, .ref r0), (1, .null)] := hl
  generalize hR : (headSpec (jw yX11_numberOf cX11_numberOf 3 (some .int)) ({ frames := 3, cells := 0, slots := 0, locals := 64 })).room = R
  subst hH0
  have hh : jSt (dC, dI) B base G0 G0 EX11_numberOfZ s.heap 0 0 [] [] [(jFl, jLs dC dI ca G0 3 none)] s.heap [] := jSt.start hX hP0 jMc.nil hI0
  clear hX hP0
  have hkm1 : ((-1) : Int32).toInt = (-1) := by decide
  have hk0 : (0 : Int32).toInt = 0 := by decide
  have hk1 : (1 : Int32).toInt = 1 := by decide
  have hly_13_7 := htw (u_lay RX11 TX11 7) (jWc_wsX110 _ (u_in_lay (by decide)))
  have hlk_61 := (htw (.fieldLink RX11 61 "ProofServer" "open" "Ljava/util/List;") (jWr_2 _ (List.mem_of_getElem? (i := 14) rfl)))
  refine lv_iconst (v := 0) hx hb dX11_numberOf_0 (by decide) ?_
  refine lv_istore_n (lv' := [(2, .int 0), (0, .ref r0), (1, .null)]) hx hb dX11_numberOf_1 rfl hl (by decide) rfl (fun ls hl => ?_)
  have L2 : ∀ (N : Nat) (v2_1 : Int32) (H_1 : Heap) (locs_1 : List Loc), jSt (dC, dI) B base G0 G0 EX11_numberOfZ s.heap 0 0 [] [] [(jFl, jLs dC dI ca G0 3 none)] H_1 locs_1 → (0 ≤ v2_1.toInt ∧ v2_1.toInt ≤ 40) → (41 - v2_1.toInt : Int) < N → ∀ ls : Array Slot, lv_has ls 3 [(0, .ref r0), (1, .null), (2, .int v2_1)] → W p l e R s m ([.ref r0, .null] : List Value).toArray below meth c H_1 locs_1 0 0 Q (F0 m 2 ls []) := by
    intro N
    induction N with
    | zero => intro v2_1 H_1 locs_1 hh_1  hi_1 hm; exact absurd hm (by omega)
    | succ N L2 =>
      intro v2_1 H_1 locs_1 hh_1  hi_1 hm_1 ls hl
      obtain ⟨hi_1_0, hi_1_1⟩ := hi_1
      refine lv_iload_n hx hb dX11_numberOf_2 rfl (lv_at hl 2 rfl) ?_
      refine lv_aload_n hx hb dX11_numberOf_3 rfl (lv_at hl 0 rfl) ?_
      obtain ⟨v_2, hv_2, hh_3⟩ := hh_1.pin (C := RX11) (T := TX11) (N := 19) hB13 rfl (by decide) hg_r0 (i := 7) (by decide) rfl
      clear hh_1
      obtain ⟨open_4, rfl, hg_open_4⟩ := hv_2
      refine j7_read hx hb hown hK (C := RX11) (T := TX11) (N := 19) rfl hly_13_7 hlk_61 (hh_3.at 0 rfl) dX11_numberOf_4 ?_
      obtain ⟨v_7, hv_7, hh_8⟩ := hh_3.pin (C := RJx4a65c) (T := TJx4a65c) (N := 3) hB1 rfl (by decide) hg_open_4 (i := 2) (by decide) rfl
      obtain ⟨size_9, rfl, hlosize_9, hhisize_9⟩ := hv_7
      refine va_callFi (A0 := jA base) (H0 := s.heap) (va_runF (hK.1 1 _ rfl).2 (As := []) (rest := [.int v2_1]) ⟨hx, hb, hml, hown, hts⟩ (uJx4a65c_size_8abf5 l dC dI ca base B hB hAp hB1 G0 H_1 open_4 1 size_9) (va_cwF 0 hts (jgF (jWr_27 _ (List.mem_of_getElem? (i := 22) rfl)) (jWr_27 _ (List.mem_of_getElem? (i := 23) rfl)) (jWr_28 _ (List.mem_of_getElem? (i := 0) rfl)) (jWr_2 _ (List.mem_of_getElem? (i := 13) rfl)) (jWr_28 _ (List.mem_of_getElem? (i := 1) rfl))) rfl rfl rfl hK7.2.2.2.2.2.1.1 ⟨by decide, by decide, by decide +kernel⟩ ⟨by rw [← hR]; exact Nat.le_of_ble_eq_true rfl, by rw [← hR]; exact Nat.le_of_ble_eq_true rfl⟩) ⟨fun a U g mk q => by obtain ⟨q0, q1, q2, qK, q10, q11, q12⟩ := q; exact ⟨q0, q1, q2, jG.calling g mk a qK, q10, q11, q12⟩, hh_8.recv (C := RJx4a65c) (T := TJx4a65c) (N := 3) hB1 rfl (by decide) hg_open_4 hK, fun U hU hW => ⟨rfl, hU, hh_8.2.1, hG.step hW hU hh_8.1, hg_open_4, (hh_8.2.2.1.sub (L1 := [(open_4, 1, 2, .int size_9)]) [0] rfl), trivial⟩⟩ rfl rfl hl.1 rfl (lv_room (Nat.le_of_ble_eq_true rfl)) dX11_numberOf_7 ⟨Nat.zero_le _, Nat.zero_le _⟩) hh_8.1 (fun q _ h => h) (fun q h => h) (fun r_6 u_5 t_5 H_5 locs_5 ht_5 hvm_5 hr_6 hb_5 hz_5 hk_5 hS_5 => ?_)
      rw [ht_5] at hb_5
      obtain ⟨hb_51, hb_52, hb_53, hb_54, hb_55⟩ := hb_5
      have hh_5 : jSt (dC, dI) B base G0 G0 EX11_numberOfZ s.heap 0 0 [(open_4, 1, 2, .int size_9), (r0, 13, 7, .ref open_4)] [] [(jFl, jLs dC dI ca G0 3 none)] H_5 locs_5 := ((hh_8.call hb_51 hb_52 hb_53 hb_54 hS_5 rfl (L1 := [(open_4, 1, 2, .int size_9), (r0, 13, 7, .ref open_4)]) [0, 1] rfl rfl (M1 := []) [] rfl rfl (I1 := [(jFl, jLs dC dI ca G0 3 none)]) [0] rfl rfl).more hb_55)
      clear hh_8 ht_5 hvm_5 hz_5 hk_5 hS_5 hb_51 hb_52 hb_53 hb_54 hb_55
      refine lv_icmp_ge (tgt := 37) hx hb dX11_numberOf_12 (by decide) (fun c_10 => ?_) (fun c_10 => ?_)
      · skip
        have c_10' : v2_1.toInt ≥ r_6.toInt := jb_ge (rfl) (rfl) c_10
        refine lv_iconst (v := (-1)) hx hb dX11_numberOf_37 (by decide) ?_
        rw [hQ]
        exact W.iret (v := (-1)) hx hb hr (fun t ht hW => ⟨⟨(-1), (), rfl, trivial, ⟨hh_5.rt (M1 := []) [] rfl ht, by rw [ht]; exact hh_5.2.2.2.2.2.2.2.2.sub (L1 := [(jFl, jLs dC dI ca G0 3 none)]) [0] rfl⟩⟩, by rw [ht]; try exact hh_5.1.1, fun q h9 hq => by rw [ht]; try exact hh_5.1.2.1 q h9 hq⟩) hh_5.1.2.2 dX11_numberOf_38
      · skip
        have c_10' : v2_1.toInt < r_6.toInt := jb_ge_n (rfl) (rfl) c_10
        refine lv_aload_n hx hb dX11_numberOf_15 rfl (lv_at hl 0 rfl) ?_
        refine j7_read hx hb hown hK (C := RX11) (T := TX11) (N := 19) rfl hly_13_7 hlk_61 (hh_5.at 1 rfl) dX11_numberOf_16 ?_
        refine lv_iload_n hx hb dX11_numberOf_19 rfl (lv_at hl 2 rfl) ?_
        refine j_callFx (A0 := jA base) (H0 := s.heap) (va_runF (hK.1 1 _ rfl).2 (As := [.int v2_1]) (rest := []) ⟨hx, hb, hml, hown, hts⟩ (uJx4a65c_get_915e3L1 l dC dI ca base B hB hAp hB1 hB3 hB221 G0 H_5 open_4 v2_1 size_9) (va_cwF 1 hts (jgF (jWr_28 _ (List.mem_of_getElem? (i := 3) rfl)) (jWr_28 _ (List.mem_of_getElem? (i := 4) rfl)) (jWr_28 _ (List.mem_of_getElem? (i := 5) rfl)) (jWr_2 _ (List.mem_of_getElem? (i := 13) rfl)) (jWr_28 _ (List.mem_of_getElem? (i := 6) rfl))) rfl rfl rfl hK7.2.2.2.2.2.1.2.1 ⟨by decide, by decide, by decide +kernel⟩ ⟨by rw [← hR]; exact Nat.le_of_ble_eq_true rfl, by rw [← hR]; exact Nat.le_of_ble_eq_true rfl⟩) ⟨fun a U g mk q => by obtain ⟨q0, q1, q2, qK, q10, q11, q12, q13, q14⟩ := q; exact ⟨q0, q1, q2, jG.calling g mk a qK, (jK7.calling g mk a q10), q11, q12, q13, q14⟩, hh_5.recv (C := RJx4a65c) (T := TJx4a65c) (N := 3) hB1 rfl (by decide) hg_open_4 hK, fun U hU hW => ⟨rfl, hU, hh_5.2.1, hG.step hW hU hh_5.1, (hK7.step hW hU hh_5.1), hg_open_4, (hh_5.2.2.1.sub (L1 := [(open_4, 1, 2, .int size_9)]) [0] rfl), (hh_5.2.2.2.2.2.2.2.2.sub (L1 := [(jFl, jLs dC dI ca G0 3 none)]) [0] rfl), by first | omega | (refine ⟨?_, ?_⟩ <;> (first | omega | rfl | assumption | decide | exact Or.inl rfl | exact Or.inr rfl | (simp only; omega)))⟩⟩ rfl rfl hl.1 rfl (lv_room (Nat.le_of_ble_eq_true rfl)) dX11_numberOf_20 ⟨Nat.zero_le _, Nat.zero_le _⟩) hh_5.1 (fun q _ h => h) (fun q h => h) (fun r_12 u_11 t_11 H_11 locs_11 ht_11 hvm_11 hr_12 hb_11 hz_11 hk_11 hS_11 => ?_)
        rw [ht_11] at hb_11
        obtain ⟨hb_11, hbE_11⟩ := hb_11
        obtain ⟨hb_111, hb_112, hb_113, hb_114, hb_115⟩ := hb_11
        have hh_11 : jSt (dC, dI) B base G0 G0 EX11_numberOfZ s.heap 0 0 [(open_4, 1, 2, .int size_9), (r0, 13, 7, .ref open_4)] [] [(jFl, jLs dC dI ca G0 3 none)] H_11 locs_11 := (((hh_5.call hb_111 hb_112 hb_113 hb_114 hS_11 rfl (L1 := [(open_4, 1, 2, .int size_9), (r0, 13, 7, .ref open_4)]) [0, 1] rfl rfl (M1 := []) [] rfl rfl (I1 := []) [] rfl rfl).more hb_115)).addIs hbE_11
        clear hh_5 ht_11 hvm_11 hz_11 hk_11 hS_11 hb_111 hb_112 hb_113 hb_114 hb_115
        clear  hbE_11
        obtain ⟨ret_13, rfl, hg_ret_13⟩ := hr_12
        refine j7_nld_n hx hb dX11_numberOf_25 rfl (lv_at hl 1 rfl) ?_
        refine lv_acmp_ne (rx := (some ret_13)) (ry := none) (tgt := 31) hx hb dX11_numberOf_26 (by decide) (fun c_14 => ?_) (fun c_14 => ?_)
        · skip
          obtain ⟨z_15, ez_15⟩ : ∃ y : Int32, y = v2_1 + 1 := ⟨_, rfl⟩
          refine lv_iinc (v := z_15) (lv' := [(2, .int z_15), (0, .ref r0), (1, .null)]) hx hb dX11_numberOf_31 hl (k := 2) rfl (by rw [ez_15]; rfl) (by decide) rfl (fun ls hl => ?_)
          have hz_15 : z_15.toInt = v2_1.toInt + 1 := by rw [ez_15]; exact jb_iadd2 (rfl) (by decide) (by omega)
          refine lv_goto (tgt := 2) hx hb dX11_numberOf_34 (by decide) ?_
          exact L2 z_15 _ _ (hh_11.sub (L1 := []) [] rfl (M1 := []) [] rfl (I1 := [(jFl, jLs dC dI ca G0 3 none)]) [0] rfl) (by first | omega | (refine ⟨?_, ?_⟩ <;> (first | omega | rfl | assumption | decide | exact Or.inl rfl | exact Or.inr rfl | (simp only; omega)))) (by omega) _ (lv_sub hl [1, 2, 0] rfl)
        · skip
          cases c_14
  exact L2 (41 - (0 : Int32).toInt : Int).toNat.succ 0 _ _ hh (by first | omega | (refine ⟨?_, ?_⟩ <;> (first | omega | rfl | assumption | decide | exact Or.inl rfl | exact Or.inr rfl | (simp only; omega)))) (by omega) _ (lv_sub hl [1, 2, 0] rfl)
end
section
def EX11_addressed : List (Nat × Nat) := []
set_option maxHeartbeats 4000000 in
set_option maxRecDepth 20000 in
theorem uX11_addressed (l : Launch) (dC : Nat → ClassId) (dI : Nat → Nat → Nat) (ca : Nat → ClassId) (base : Nat) (B : jF) (hB : jBok B) (hAp : jAp (dC, dI)) (hB1 : ∀ n G a H, B 1 n G a H ↔ jOb (dC, dI) 1 3 (F1 n G) a H) (hB3 : ∀ n G a H, B 3 n G a H ↔ jOb (dC, dI) 3 17 (F3 n G) a H) (hB6 : ∀ n G a H, B 6 n G a H ↔ jOb (dC, dI) 6 12 (F6 n G) a H) (hB13 : ∀ n G a H, B 13 n G a H ↔ jOb (dC, dI) 13 19 (F13 n G) a H) (hB101 : ∀ n G a H, B 101 n G a H ↔ jAr (dC, dI) (ca 1) (fun j z => True) n a H) (hB140 : ∀ n G a H, B 140 n G a H ↔ jAr (dC, dI) (ca 1) (fun j z => True) n a H) (hB141 : ∀ n G a H, B 141 n G a H ↔ jAr (dC, dI) (ca 1) (fun j z => True) n a H) (hB142 : ∀ n G a H, B 142 n G a H ↔ jAr (dC, dI) (ca 1) (fun j z => True) n a H) (hB143 : ∀ n G a H, B 143 n G a H ↔ jAr (dC, dI) (ca 1) (fun j z => True) n a H) (hB144 : ∀ n G a H, B 144 n G a H ↔ jAr (dC, dI) (ca 1) (fun j z => 0 ≤ z.toInt ∧ z.toInt ≤ 3000) n a H) (hB145 : ∀ n G a H, B 145 n G a H ↔ jAr (dC, dI) (ca 1) (fun j z => True) n a H) (hB146 : ∀ n G a H, B 146 n G a H ↔ jAr (dC, dI) (ca 1) (fun j z => True) n a H) (hB221 : ∀ n G a H, B 221 n G a H ↔ jAq (dC, dI) (ca 9) (jQn 3 0) n G a H) (G0 : jT) (H0 : Heap) (r0 : Nat) : Met l yX11_addressed (jw yX11_addressed cX11_addressed 3 (some (.object "ProofServer$Document"))) ({ frames := 6, cells := 0, slots := 0, locals := 190 }) (va_Pc [.ref r0] (fun U => U.heap = H0 ∧ jX B base G0 [] H0 ∧ jG dC dI ca base U ∧ jK7 dC dI ca base U ∧ G0 r0 = some (13, 0) ∧ jP (dC, dI) G0 H0 [] ∧ jIs (dC, dI) G0 H0 [(jFl, jLs dC dI ca G0 3 none)] ∧ True)) (jQx (S := Unit) (fun v u => jRn G0 3 0 v) (fun u t => (jRt (dC, dI) B base G0 EX11_addressed H0 [] t.heap) ∧ jIs (dC, dI) G0 t.heap [(jFl, jLs dC dI ca G0 3 none)]) (jA base)) 0 0 (jA base) := by
  refine Met.ofW (cc := cX11_addressed) (maxL := 3) (ret := (some (.object "ProofServer$Document"))) (by decide) rfl ?_
  intro p e s m args below meth c s₁ Bd hml hv
  obtain ⟨rfl, hH0, hX, hG, hK7, hg_r0, hP0, hI0, hp0⟩ := hv
  have hK := hG.1
  have hx := Bd.exec
  have hb := Bd.bytes
  have hr := Bd.returns
  have hts := atoms_spec (ws := (jw yX11_addressed cX11_addressed 3 (some (.object "ProofServer$Document")))) Bd.pre
  have htw : ∀ w ∈ jWl, w.before _ s = true := fun w h => hts w (List.mem_cons_of_mem _ h)
  have hown : s.vm.findClass RX11 = some m.cls := findClass_of_methodNamed Bd.named
  have hlocks := Bd.notSynchronized
  obtain ⟨Q, hQ⟩ : ∃ Q, Q = MQ below (jQx (S := Unit) (fun v u => jRn G0 3 0 v) (fun u t => (jRt (dC, dI) B base G0 EX11_addressed H0 [] t.heap) ∧ jIs (dC, dI) G0 t.heap [(jFl, jLs dC dI ca G0 3 none)]) (jA base)) ([.ref r0] : List Value).toArray s 0 0 (jA base) := ⟨_, rfl⟩
  rw [← hQ]
  have hl := lv_entry ([.ref r0]) (n := 3) (Nat.le_of_ble_eq_true rfl)
  rw [lg_entry_eq]
  generalize (lg_sl ([.ref r0]) ++ List.replicate (3 - (lg_sl ([.ref r0])).length) Slot.unset).toArray = ls at hl ⊢
  have hl : lv_has ls 3 [(0, .ref r0)] := hl
  generalize hR : (headSpec (jw yX11_addressed cX11_addressed 3 (some (.object "ProofServer$Document"))) ({ frames := 6, cells := 0, slots := 0, locals := 190 })).room = R
  subst hH0
  have hh : jSt (dC, dI) B base G0 G0 EX11_addressed s.heap 0 0 [] [] [(jFl, jLs dC dI ca G0 3 none)] s.heap [] := jSt.start hX hP0 jMc.nil hI0
  clear hX hP0
  have hk0 : (0 : Int32).toInt = 0 := by decide
  have hk1 : (1 : Int32).toInt = 1 := by decide
  have hly_3_0 := htw (u_lay RX1 TX1 0) (jWc_wsX10 _ (u_in_lay (by decide)))
  have hly_13_2 := htw (u_lay RX11 TX11 2) (jWc_wsX110 _ (u_in_lay (by decide)))
  have hly_13_7 := htw (u_lay RX11 TX11 7) (jWc_wsX110 _ (u_in_lay (by decide)))
  have hlk_28 := (htw (.fieldLink RX11 28 "ProofServer" "json" "LProofServer$Json;") (jWr_1 _ (List.mem_of_getElem? (i := 23) rfl)))
  obtain ⟨str271, rstr271, hstr2710⟩ := hG.str (o := RX11) (k := 271) (tx := "params") (List.mem_of_getElem? (i := 852) (by decide +kernel))
  have hstr271 : jStr base str271 6 s s.heap := hstr2710
  obtain ⟨str344, rstr344, hstr3440⟩ := hG.str (o := RX11) (k := 344) (tx := "textDocument") (List.mem_of_getElem? (i := 879) (by decide +kernel))
  have hstr344 : jStr base str344 12 s s.heap := hstr3440
  obtain ⟨str346, rstr346, hstr3460⟩ := hG.str (o := RX11) (k := 346) (tx := "uri") (List.mem_of_getElem? (i := 880) (by decide +kernel))
  have hstr346 : jStr base str346 3 s s.heap := hstr3460
  have hlk_61 := (htw (.fieldLink RX11 61 "ProofServer" "open" "Ljava/util/List;") (jWr_2 _ (List.mem_of_getElem? (i := 14) rfl)))
  have hlk_348 := (htw (.fieldLink RX11 348 "ProofServer$Document" "uri" "[I") (jWr_27 _ (List.mem_of_getElem? (i := 21) rfl)))
  refine lv_aload_n hx hb dX11_addressed_0 rfl (lv_at hl 0 rfl) ?_
  obtain ⟨v_1, hv_1, hh_2⟩ := hh.pin (C := RX11) (T := TX11) (N := 19) hB13 rfl (by decide) hg_r0 (i := 2) (by decide) rfl
  clear hh
  obtain ⟨json_3, rfl, hg_json_3⟩ := hv_1
  refine j7_read hx hb hown hK (C := RX11) (T := TX11) (N := 19) rfl hly_13_2 hlk_28 (hh_2.at 0 rfl) dX11_addressed_1 ?_
  refine lv_aload_n hx hb dX11_addressed_4 rfl (lv_at hl 0 rfl) ?_
  refine j7_read hx hb hown hK (C := RX11) (T := TX11) (N := 19) rfl hly_13_2 hlk_28 (hh_2.at 0 rfl) dX11_addressed_5 ?_
  refine lv_aload_n hx hb dX11_addressed_8 rfl (lv_at hl 0 rfl) ?_
  refine j7_read hx hb hown hK (C := RX11) (T := TX11) (N := 19) rfl hly_13_2 hlk_28 (hh_2.at 0 rfl) dX11_addressed_9 ?_
  refine lv_iconst (v := 0) hx hb dX11_addressed_12 (by decide) ?_
  refine j_ldcSw hx hb hown rstr271 dX11_addressed_13 ?_
  refine va_calli (A0 := jA base) (H0 := s.heap) (va_runV (As := [.int 0, .ref str271]) (rest := [.ref json_3, .ref json_3]) ⟨hx, hb, hml, hown, hts⟩ (uX4_member l dC dI ca base B hB hAp hB6 hB140 hB141 hB142 hB143 hB144 hB145 hB146 G0 s.heap json_3 0 str271 6) (cwV 2 hts (jgV (jWr_23 _ (List.mem_of_getElem? (i := 10) rfl)) (jWr_23 _ (List.mem_of_getElem? (i := 11) rfl)) (jWr_23 _ (List.mem_of_getElem? (i := 12) rfl)) (jWr_1 _ (List.mem_of_getElem? (i := 22) rfl)) (jWr_23 _ (List.mem_of_getElem? (i := 13) rfl))) rfl rfl rfl (by decide +kernel) ⟨by rw [← hR]; exact Nat.le_of_ble_eq_true rfl, by rw [← hR]; exact Nat.le_of_ble_eq_true rfl⟩) ⟨fun a U g mk q => by obtain ⟨q0, q1, q2, qK, q10, q11, q12, q13⟩ := q; exact ⟨q0, q1, q2, jG.calling g mk a qK, (q10.moved (Vm.Alike.refl U.vm)), q11, q12, q13⟩, hh_2.recv (C := RX4) (T := TX4) (N := 12) hB6 rfl (by decide) hg_json_3 hK, fun U hU hW => ⟨rfl, hU, hh_2.2.1, hG.step hW hU hh_2.1, (hstr271.moved hW.alike).kept hh_2.1.2.1, hg_json_3, jP.nil, by first | omega | rfl | assumption | decide | exact Or.inl rfl | exact Or.inr rfl | (simp only; omega)⟩⟩ rfl rfl hl.1 rfl (lv_room (Nat.le_of_ble_eq_true rfl)) dX11_addressed_16 ⟨Nat.zero_le _, Nat.zero_le _⟩) hh_2.1 (fun q _ h => h) (fun q h => h) (fun r_5 u_4 t_4 H_4 locs_4 ht_4 hvm_4 hr_5 hb_4 hz_4 hk_4 hS_4 => ?_)
  rw [ht_4] at hb_4
  obtain ⟨hb_41, hb_42, hb_43, hb_44, hb_45⟩ := hb_4
  have hh_4 : jSt (dC, dI) B base G0 G0 EX11_addressed s.heap 0 0 [(r0, 13, 2, .ref json_3)] [] [(jFl, jLs dC dI ca G0 3 none)] H_4 locs_4 := ((hh_2.call hb_41 hb_42 hb_43 hb_44 hS_4 rfl (L1 := [(r0, 13, 2, .ref json_3)]) [0] rfl rfl (M1 := []) [] rfl rfl (I1 := [(jFl, jLs dC dI ca G0 3 none)]) [0] rfl rfl).more hb_45)
  clear hh_2 ht_4 hvm_4 hz_4 hk_4 hS_4 hb_41 hb_42 hb_43 hb_44 hb_45
  obtain ⟨hr_5_0, hr_5_1⟩ := hr_5
  refine j_ldcSw hx hb hown rstr344 dX11_addressed_19 ?_
  refine va_calli (A0 := jA base) (H0 := s.heap) (va_runV (As := [.int r_5, .ref str344]) (rest := [.ref json_3]) ⟨hx, hb, hml, hown, hts⟩ (uX4_member l dC dI ca base B hB hAp hB6 hB140 hB141 hB142 hB143 hB144 hB145 hB146 G0 H_4 json_3 r_5 str344 12) (cwV 2 hts (jgV (jWr_23 _ (List.mem_of_getElem? (i := 10) rfl)) (jWr_23 _ (List.mem_of_getElem? (i := 11) rfl)) (jWr_23 _ (List.mem_of_getElem? (i := 12) rfl)) (jWr_1 _ (List.mem_of_getElem? (i := 22) rfl)) (jWr_23 _ (List.mem_of_getElem? (i := 13) rfl))) rfl rfl rfl (by decide +kernel) ⟨by rw [← hR]; exact Nat.le_of_ble_eq_true rfl, by rw [← hR]; exact Nat.le_of_ble_eq_true rfl⟩) ⟨fun a U g mk q => by obtain ⟨q0, q1, q2, qK, q10, q11, q12, q13⟩ := q; exact ⟨q0, q1, q2, jG.calling g mk a qK, (q10.moved (Vm.Alike.refl U.vm)), q11, q12, q13⟩, hh_4.recv (C := RX4) (T := TX4) (N := 12) hB6 rfl (by decide) hg_json_3 hK, fun U hU hW => ⟨rfl, hU, hh_4.2.1, hG.step hW hU hh_4.1, (hstr344.moved hW.alike).kept hh_4.1.2.1, hg_json_3, jP.nil, by first | omega | rfl | assumption | decide | exact Or.inl rfl | exact Or.inr rfl | (simp only; omega)⟩⟩ rfl rfl hl.1 rfl (lv_room (Nat.le_of_ble_eq_true rfl)) dX11_addressed_22 ⟨Nat.zero_le _, Nat.zero_le _⟩) hh_4.1 (fun q _ h => h) (fun q h => h) (fun r_7 u_6 t_6 H_6 locs_6 ht_6 hvm_6 hr_7 hb_6 hz_6 hk_6 hS_6 => ?_)
  rw [ht_6] at hb_6
  obtain ⟨hb_61, hb_62, hb_63, hb_64, hb_65⟩ := hb_6
  have hh_6 : jSt (dC, dI) B base G0 G0 EX11_addressed s.heap 0 0 [(r0, 13, 2, .ref json_3)] [] [(jFl, jLs dC dI ca G0 3 none)] H_6 locs_6 := ((hh_4.call hb_61 hb_62 hb_63 hb_64 hS_6 rfl (L1 := [(r0, 13, 2, .ref json_3)]) [0] rfl rfl (M1 := []) [] rfl rfl (I1 := [(jFl, jLs dC dI ca G0 3 none)]) [0] rfl rfl).more hb_65)
  clear hh_4 ht_6 hvm_6 hz_6 hk_6 hS_6 hb_61 hb_62 hb_63 hb_64 hb_65
  obtain ⟨hr_7_0, hr_7_1⟩ := hr_7
  refine j_ldcSw hx hb hown rstr346 dX11_addressed_25 ?_
  refine va_calli (A0 := jA base) (H0 := s.heap) (va_runV (As := [.int r_7, .ref str346]) (rest := []) ⟨hx, hb, hml, hown, hts⟩ (uX4_member l dC dI ca base B hB hAp hB6 hB140 hB141 hB142 hB143 hB144 hB145 hB146 G0 H_6 json_3 r_7 str346 3) (cwV 2 hts (jgV (jWr_23 _ (List.mem_of_getElem? (i := 10) rfl)) (jWr_23 _ (List.mem_of_getElem? (i := 11) rfl)) (jWr_23 _ (List.mem_of_getElem? (i := 12) rfl)) (jWr_1 _ (List.mem_of_getElem? (i := 22) rfl)) (jWr_23 _ (List.mem_of_getElem? (i := 13) rfl))) rfl rfl rfl (by decide +kernel) ⟨by rw [← hR]; exact Nat.le_of_ble_eq_true rfl, by rw [← hR]; exact Nat.le_of_ble_eq_true rfl⟩) ⟨fun a U g mk q => by obtain ⟨q0, q1, q2, qK, q10, q11, q12, q13⟩ := q; exact ⟨q0, q1, q2, jG.calling g mk a qK, (q10.moved (Vm.Alike.refl U.vm)), q11, q12, q13⟩, hh_6.recv (C := RX4) (T := TX4) (N := 12) hB6 rfl (by decide) hg_json_3 hK, fun U hU hW => ⟨rfl, hU, hh_6.2.1, hG.step hW hU hh_6.1, (hstr346.moved hW.alike).kept hh_6.1.2.1, hg_json_3, jP.nil, by first | omega | rfl | assumption | decide | exact Or.inl rfl | exact Or.inr rfl | (simp only; omega)⟩⟩ rfl rfl hl.1 rfl (lv_room (Nat.le_of_ble_eq_true rfl)) dX11_addressed_28 ⟨Nat.zero_le _, Nat.zero_le _⟩) hh_6.1 (fun q _ h => h) (fun q h => h) (fun r_9 u_8 t_8 H_8 locs_8 ht_8 hvm_8 hr_9 hb_8 hz_8 hk_8 hS_8 => ?_)
  rw [ht_8] at hb_8
  obtain ⟨hb_81, hb_82, hb_83, hb_84, hb_85⟩ := hb_8
  have hh_8 : jSt (dC, dI) B base G0 G0 EX11_addressed s.heap 0 0 [(r0, 13, 2, .ref json_3)] [] [(jFl, jLs dC dI ca G0 3 none)] H_8 locs_8 := ((hh_6.call hb_81 hb_82 hb_83 hb_84 hS_8 rfl (L1 := [(r0, 13, 2, .ref json_3)]) [0] rfl rfl (M1 := []) [] rfl rfl (I1 := [(jFl, jLs dC dI ca G0 3 none)]) [0] rfl rfl).more hb_85)
  clear hh_6 ht_8 hvm_8 hz_8 hk_8 hS_8 hb_81 hb_82 hb_83 hb_84 hb_85
  obtain ⟨hr_9_0, hr_9_1⟩ := hr_9
  refine lv_istore_n (lv' := [(1, .int r_9), (0, .ref r0)]) hx hb dX11_addressed_31 rfl hl (by decide) rfl (fun ls hl => ?_)
  refine lv_iconst (v := 0) hx hb dX11_addressed_32 (by decide) ?_
  refine lv_istore_n (lv' := [(2, .int 0), (1, .int r_9), (0, .ref r0)]) hx hb dX11_addressed_33 rfl hl (by decide) rfl (fun ls hl => ?_)
  have L34 : ∀ (N : Nat) (v2_10 : Int32) (H_10 : Heap) (locs_10 : List Loc), jSt (dC, dI) B base G0 G0 EX11_addressed s.heap 0 0 [(r0, 13, 2, .ref json_3)] [] [(jFl, jLs dC dI ca G0 3 none)] H_10 locs_10 → (0 ≤ v2_10.toInt ∧ v2_10.toInt ≤ 40) → (41 - v2_10.toInt : Int) < N → ∀ ls : Array Slot, lv_has ls 3 [(0, .ref r0), (1, .int r_9), (2, .int v2_10)] → W p l e R s m ([.ref r0] : List Value).toArray below meth c H_10 locs_10 0 0 Q (F0 m 34 ls []) := by
    intro N
    induction N with
    | zero => intro v2_10 H_10 locs_10 hh_10  hi_10 hm; exact absurd hm (by omega)
    | succ N L34 =>
      intro v2_10 H_10 locs_10 hh_10  hi_10 hm_10 ls hl
      obtain ⟨hi_10_0, hi_10_1⟩ := hi_10
      refine lv_iload_n hx hb dX11_addressed_34 rfl (lv_at hl 2 rfl) ?_
      refine lv_aload_n hx hb dX11_addressed_35 rfl (lv_at hl 0 rfl) ?_
      obtain ⟨v_11, hv_11, hh_12⟩ := hh_10.pin (C := RX11) (T := TX11) (N := 19) hB13 rfl (by decide) hg_r0 (i := 7) (by decide) rfl
      clear hh_10
      obtain ⟨open_13, rfl, hg_open_13⟩ := hv_11
      refine j7_read hx hb hown hK (C := RX11) (T := TX11) (N := 19) rfl hly_13_7 hlk_61 (hh_12.at 0 rfl) dX11_addressed_36 ?_
      obtain ⟨v_16, hv_16, hh_17⟩ := hh_12.pin (C := RJx4a65c) (T := TJx4a65c) (N := 3) hB1 rfl (by decide) hg_open_13 (i := 2) (by decide) rfl
      obtain ⟨size_18, rfl, hlosize_18, hhisize_18⟩ := hv_16
      refine va_callFi (A0 := jA base) (H0 := s.heap) (va_runF (hK.1 1 _ rfl).2 (As := []) (rest := [.int v2_10]) ⟨hx, hb, hml, hown, hts⟩ (uJx4a65c_size_8abf5 l dC dI ca base B hB hAp hB1 G0 H_10 open_13 1 size_18) (va_cwF 0 hts (jgF (jWr_27 _ (List.mem_of_getElem? (i := 22) rfl)) (jWr_27 _ (List.mem_of_getElem? (i := 23) rfl)) (jWr_28 _ (List.mem_of_getElem? (i := 0) rfl)) (jWr_2 _ (List.mem_of_getElem? (i := 13) rfl)) (jWr_28 _ (List.mem_of_getElem? (i := 1) rfl))) rfl rfl rfl hK7.2.2.2.2.2.1.1 ⟨by decide, by decide, by decide +kernel⟩ ⟨by rw [← hR]; exact Nat.le_of_ble_eq_true rfl, by rw [← hR]; exact Nat.le_of_ble_eq_true rfl⟩) ⟨fun a U g mk q => by obtain ⟨q0, q1, q2, qK, q10, q11, q12⟩ := q; exact ⟨q0, q1, q2, jG.calling g mk a qK, q10, q11, q12⟩, hh_17.recv (C := RJx4a65c) (T := TJx4a65c) (N := 3) hB1 rfl (by decide) hg_open_13 hK, fun U hU hW => ⟨rfl, hU, hh_17.2.1, hG.step hW hU hh_17.1, hg_open_13, (hh_17.2.2.1.sub (L1 := [(open_13, 1, 2, .int size_18)]) [0] rfl), trivial⟩⟩ rfl rfl hl.1 rfl (lv_room (Nat.le_of_ble_eq_true rfl)) dX11_addressed_39 ⟨Nat.zero_le _, Nat.zero_le _⟩) hh_17.1 (fun q _ h => h) (fun q h => h) (fun r_15 u_14 t_14 H_14 locs_14 ht_14 hvm_14 hr_15 hb_14 hz_14 hk_14 hS_14 => ?_)
      rw [ht_14] at hb_14
      obtain ⟨hb_141, hb_142, hb_143, hb_144, hb_145⟩ := hb_14
      have hh_14 : jSt (dC, dI) B base G0 G0 EX11_addressed s.heap 0 0 [(open_13, 1, 2, .int size_18), (r0, 13, 7, .ref open_13), (r0, 13, 2, .ref json_3)] [] [(jFl, jLs dC dI ca G0 3 none)] H_14 locs_14 := ((hh_17.call hb_141 hb_142 hb_143 hb_144 hS_14 rfl (L1 := [(open_13, 1, 2, .int size_18), (r0, 13, 7, .ref open_13), (r0, 13, 2, .ref json_3)]) [0, 1, 2] rfl rfl (M1 := []) [] rfl rfl (I1 := [(jFl, jLs dC dI ca G0 3 none)]) [0] rfl rfl).more hb_145)
      clear hh_17 ht_14 hvm_14 hz_14 hk_14 hS_14 hb_141 hb_142 hb_143 hb_144 hb_145
      refine lv_icmp_ge (tgt := 94) hx hb dX11_addressed_44 (by decide) (fun c_19 => ?_) (fun c_19 => ?_)
      · skip
        have c_19' : v2_10.toInt ≥ r_15.toInt := jb_ge (rfl) (rfl) c_19
        refine lv_null hx hb dX11_addressed_94 ?_
        rw [hQ]
        exact W.aret (v := .null) hx hb hr (Or.inl ⟨_, rfl⟩) (Or.inl rfl) (fun t ht hW => ⟨⟨.null, (), rfl, Or.inl rfl, ⟨hh_14.rt (M1 := []) [] rfl ht, by rw [ht]; exact hh_14.2.2.2.2.2.2.2.2.sub (L1 := [(jFl, jLs dC dI ca G0 3 none)]) [0] rfl⟩⟩, by rw [ht]; try exact hh_14.1.1, fun q h9 hq => by rw [ht]; try exact hh_14.1.2.1 q h9 hq⟩) hh_14.1.2.2 dX11_addressed_95
      · skip
        have c_19' : v2_10.toInt < r_15.toInt := jb_ge_n (rfl) (rfl) c_19
        refine lv_aload_n hx hb dX11_addressed_47 rfl (lv_at hl 0 rfl) ?_
        refine j7_read hx hb hown hK (C := RX11) (T := TX11) (N := 19) rfl hly_13_2 hlk_28 (hh_14.at 2 rfl) dX11_addressed_48 ?_
        refine lv_iload_n hx hb dX11_addressed_51 rfl (lv_at hl 1 rfl) ?_
        refine lv_aload_n hx hb dX11_addressed_52 rfl (lv_at hl 0 rfl) ?_
        refine j7_read hx hb hown hK (C := RX11) (T := TX11) (N := 19) rfl hly_13_7 hlk_61 (hh_14.at 1 rfl) dX11_addressed_53 ?_
        refine lv_iload_n hx hb dX11_addressed_56 rfl (lv_at hl 2 rfl) ?_
        refine j_callFx (A0 := jA base) (H0 := s.heap) (va_runF (hK.1 1 _ rfl).2 (As := [.int v2_10]) (rest := [.int r_9, .ref json_3]) ⟨hx, hb, hml, hown, hts⟩ (uJx4a65c_get_915e3L1 l dC dI ca base B hB hAp hB1 hB3 hB221 G0 H_14 open_13 v2_10 size_18) (va_cwF 1 hts (jgF (jWr_28 _ (List.mem_of_getElem? (i := 3) rfl)) (jWr_28 _ (List.mem_of_getElem? (i := 4) rfl)) (jWr_28 _ (List.mem_of_getElem? (i := 5) rfl)) (jWr_2 _ (List.mem_of_getElem? (i := 13) rfl)) (jWr_28 _ (List.mem_of_getElem? (i := 6) rfl))) rfl rfl rfl hK7.2.2.2.2.2.1.2.1 ⟨by decide, by decide, by decide +kernel⟩ ⟨by rw [← hR]; exact Nat.le_of_ble_eq_true rfl, by rw [← hR]; exact Nat.le_of_ble_eq_true rfl⟩) ⟨fun a U g mk q => by obtain ⟨q0, q1, q2, qK, q10, q11, q12, q13, q14⟩ := q; exact ⟨q0, q1, q2, jG.calling g mk a qK, (jK7.calling g mk a q10), q11, q12, q13, q14⟩, hh_14.recv (C := RJx4a65c) (T := TJx4a65c) (N := 3) hB1 rfl (by decide) hg_open_13 hK, fun U hU hW => ⟨rfl, hU, hh_14.2.1, hG.step hW hU hh_14.1, (hK7.step hW hU hh_14.1), hg_open_13, (hh_14.2.2.1.sub (L1 := [(open_13, 1, 2, .int size_18)]) [0] rfl), (hh_14.2.2.2.2.2.2.2.2.sub (L1 := [(jFl, jLs dC dI ca G0 3 none)]) [0] rfl), by first | omega | (refine ⟨?_, ?_⟩ <;> (first | omega | rfl | assumption | decide | exact Or.inl rfl | exact Or.inr rfl | (simp only; omega)))⟩⟩ rfl rfl hl.1 rfl (lv_room (Nat.le_of_ble_eq_true rfl)) dX11_addressed_57 ⟨Nat.zero_le _, Nat.zero_le _⟩) hh_14.1 (fun q _ h => h) (fun q h => h) (fun r_21 u_20 t_20 H_20 locs_20 ht_20 hvm_20 hr_21 hb_20 hz_20 hk_20 hS_20 => ?_)
        rw [ht_20] at hb_20
        obtain ⟨hb_20, hbE_20⟩ := hb_20
        obtain ⟨hb_201, hb_202, hb_203, hb_204, hb_205⟩ := hb_20
        have hh_20 : jSt (dC, dI) B base G0 G0 EX11_addressed s.heap 0 0 [(open_13, 1, 2, .int size_18), (r0, 13, 7, .ref open_13), (r0, 13, 2, .ref json_3)] [] [(jFl, jLs dC dI ca G0 3 none)] H_20 locs_20 := (((hh_14.call hb_201 hb_202 hb_203 hb_204 hS_20 rfl (L1 := [(open_13, 1, 2, .int size_18), (r0, 13, 7, .ref open_13), (r0, 13, 2, .ref json_3)]) [0, 1, 2] rfl rfl (M1 := []) [] rfl rfl (I1 := []) [] rfl rfl).more hb_205)).addIs hbE_20
        clear hh_14 ht_20 hvm_20 hz_20 hk_20 hS_20 hb_201 hb_202 hb_203 hb_204 hb_205
        clear  hbE_20
        obtain ⟨ret_22, rfl, hg_ret_22⟩ := hr_21
        refine va_castY hx hb hown (htw (.classLink RX11 71 "ProofServer$Document") (jWr_27 _ (List.mem_of_getElem? (i := 20) rfl))) hK7.2.2.1.1.2 (hh_20.recv (C := RX1) (T := TX1) (N := 17) hB3 rfl (by decide) hg_ret_22 hK) dX11_addressed_62 ?_
        obtain ⟨v_23, hv_23, hh_24⟩ := hh_20.pin (C := RX1) (T := TX1) (N := 17) hB3 rfl (by decide) hg_ret_22 (i := 0) (by decide) rfl
        clear hh_20
        obtain ⟨uri_25, nuri_25, rfl, hg_uri_25, hn_uri_25⟩ := hv_23
        refine j7_read hx hb hown hK (C := RX1) (T := TX1) (N := 17) rfl hly_3_0 hlk_348 (hh_24.at 0 rfl) dX11_addressed_65 ?_
        refine va_calli (A0 := jA base) (H0 := s.heap) (va_runV (As := [.int r_9, .ref uri_25]) (rest := []) ⟨hx, hb, hml, hown, hts⟩ (uX4_isUnits l dC dI ca base B hB hAp hB6 hB101 hB140 hB141 hB142 hB146 G0 H_20 json_3 r_9 uri_25 nuri_25) (cwV 2 hts (jgV (jWr_28 _ (List.mem_of_getElem? (i := 16) rfl)) (jWr_28 _ (List.mem_of_getElem? (i := 17) rfl)) (jWr_28 _ (List.mem_of_getElem? (i := 18) rfl)) (jWr_1 _ (List.mem_of_getElem? (i := 22) rfl)) (jWr_28 _ (List.mem_of_getElem? (i := 19) rfl))) rfl rfl rfl (by decide +kernel) ⟨by rw [← hR]; exact Nat.le_of_ble_eq_true rfl, by rw [← hR]; exact Nat.le_of_ble_eq_true rfl⟩) ⟨fun a U g mk q => by obtain ⟨q0, q1, q2, qK, q10, q11, q12, q13⟩ := q; exact ⟨q0, q1, q2, jG.calling g mk a qK, q10, q11, q12, q13⟩, hh_24.recv (C := RX4) (T := TX4) (N := 12) hB6 rfl (by decide) hg_json_3 hK, fun U hU hW => ⟨rfl, hU, hh_24.2.1, hG.step hW hU hh_24.1, hg_uri_25, hg_json_3, jP.nil, by first | omega | rfl | assumption | decide | exact Or.inl rfl | exact Or.inr rfl | (simp only; omega)⟩⟩ rfl rfl hl.1 rfl (lv_room (Nat.le_of_ble_eq_true rfl)) dX11_addressed_68 ⟨Nat.zero_le _, Nat.zero_le _⟩) hh_24.1 (fun q _ h => h) (fun q h => h) (fun r_27 u_26 t_26 H_26 locs_26 ht_26 hvm_26 hr_27 hb_26 hz_26 hk_26 hS_26 => ?_)
        rw [ht_26] at hb_26
        obtain ⟨hb_261, hb_262, hb_263, hb_264, hb_265⟩ := hb_26
        have hh_26 : jSt (dC, dI) B base G0 G0 EX11_addressed s.heap 0 0 [(ret_22, 3, 0, .ref uri_25), (open_13, 1, 2, .int size_18), (r0, 13, 7, .ref open_13), (r0, 13, 2, .ref json_3)] [] [(jFl, jLs dC dI ca G0 3 none)] H_26 locs_26 := ((hh_24.call hb_261 hb_262 hb_263 hb_264 hS_26 rfl (L1 := [(ret_22, 3, 0, .ref uri_25), (open_13, 1, 2, .int size_18), (r0, 13, 7, .ref open_13), (r0, 13, 2, .ref json_3)]) [0, 1, 2, 3] rfl rfl (M1 := []) [] rfl rfl (I1 := [(jFl, jLs dC dI ca G0 3 none)]) [0] rfl rfl).more hb_265)
        clear hh_24 ht_26 hvm_26 hz_26 hk_26 hS_26 hb_261 hb_262 hb_263 hb_264 hb_265
        obtain ⟨hr_27b, hr_27p⟩ := hr_27
        have hr_27' := jb_01 hr_27b
        refine lv_if_eq (tgt := 88) hx hb dX11_addressed_71 (by decide) (fun c_28 => ?_) (fun c_28 => ?_)
        · skip
          have c_28' : r_27.toInt = 0 := jb_eq (rfl) ((by decide)) c_28
          obtain ⟨z_29, ez_29⟩ : ∃ y : Int32, y = v2_10 + 1 := ⟨_, rfl⟩
          refine lv_iinc (v := z_29) (lv' := [(2, .int z_29), (0, .ref r0), (1, .int r_9)]) hx hb dX11_addressed_88 hl (k := 2) rfl (by rw [ez_29]; rfl) (by decide) rfl (fun ls hl => ?_)
          have hz_29 : z_29.toInt = v2_10.toInt + 1 := by rw [ez_29]; exact jb_iadd2 (rfl) (by decide) (by omega)
          refine lv_goto (tgt := 34) hx hb dX11_addressed_91 (by decide) ?_
          exact L34 z_29 _ _ (hh_26.sub (L1 := [(r0, 13, 2, .ref json_3)]) [3] rfl (M1 := []) [] rfl (I1 := [(jFl, jLs dC dI ca G0 3 none)]) [0] rfl) (by first | omega | (refine ⟨?_, ?_⟩ <;> (first | omega | rfl | assumption | decide | exact Or.inl rfl | exact Or.inr rfl | (simp only; omega)))) (by omega) _ (lv_sub hl [1, 2, 0] rfl)
        · skip
          have c_28' : r_27.toInt ≠ 0 := jb_eq_n (rfl) ((by decide)) c_28
          refine lv_aload_n hx hb dX11_addressed_74 rfl (lv_at hl 0 rfl) ?_
          refine j7_read hx hb hown hK (C := RX11) (T := TX11) (N := 19) rfl hly_13_7 hlk_61 (hh_26.at 2 rfl) dX11_addressed_75 ?_
          refine lv_iload_n hx hb dX11_addressed_78 rfl (lv_at hl 2 rfl) ?_
          refine j_callFx (A0 := jA base) (H0 := s.heap) (va_runF (hK.1 1 _ rfl).2 (As := [.int v2_10]) (rest := []) ⟨hx, hb, hml, hown, hts⟩ (uJx4a65c_get_915e3L1 l dC dI ca base B hB hAp hB1 hB3 hB221 G0 H_26 open_13 v2_10 size_18) (va_cwF 1 hts (jgF (jWr_28 _ (List.mem_of_getElem? (i := 3) rfl)) (jWr_28 _ (List.mem_of_getElem? (i := 4) rfl)) (jWr_28 _ (List.mem_of_getElem? (i := 5) rfl)) (jWr_2 _ (List.mem_of_getElem? (i := 13) rfl)) (jWr_28 _ (List.mem_of_getElem? (i := 6) rfl))) rfl rfl rfl hK7.2.2.2.2.2.1.2.1 ⟨by decide, by decide, by decide +kernel⟩ ⟨by rw [← hR]; exact Nat.le_of_ble_eq_true rfl, by rw [← hR]; exact Nat.le_of_ble_eq_true rfl⟩) ⟨fun a U g mk q => by obtain ⟨q0, q1, q2, qK, q10, q11, q12, q13, q14⟩ := q; exact ⟨q0, q1, q2, jG.calling g mk a qK, (jK7.calling g mk a q10), q11, q12, q13, q14⟩, hh_26.recv (C := RJx4a65c) (T := TJx4a65c) (N := 3) hB1 rfl (by decide) hg_open_13 hK, fun U hU hW => ⟨rfl, hU, hh_26.2.1, hG.step hW hU hh_26.1, (hK7.step hW hU hh_26.1), hg_open_13, (hh_26.2.2.1.sub (L1 := [(open_13, 1, 2, .int size_18)]) [1] rfl), (hh_26.2.2.2.2.2.2.2.2.sub (L1 := [(jFl, jLs dC dI ca G0 3 none)]) [0] rfl), by first | omega | (refine ⟨?_, ?_⟩ <;> (first | omega | rfl | assumption | decide | exact Or.inl rfl | exact Or.inr rfl | (simp only; omega)))⟩⟩ rfl rfl hl.1 rfl (lv_room (Nat.le_of_ble_eq_true rfl)) dX11_addressed_79 ⟨Nat.zero_le _, Nat.zero_le _⟩) hh_26.1 (fun q _ h => h) (fun q h => h) (fun r_31 u_30 t_30 H_30 locs_30 ht_30 hvm_30 hr_31 hb_30 hz_30 hk_30 hS_30 => ?_)
          rw [ht_30] at hb_30
          obtain ⟨hb_30, hbE_30⟩ := hb_30
          obtain ⟨hb_301, hb_302, hb_303, hb_304, hb_305⟩ := hb_30
          have hh_30 : jSt (dC, dI) B base G0 G0 EX11_addressed s.heap 0 0 [(ret_22, 3, 0, .ref uri_25), (open_13, 1, 2, .int size_18), (r0, 13, 7, .ref open_13), (r0, 13, 2, .ref json_3)] [] [(jFl, jLs dC dI ca G0 3 none)] H_30 locs_30 := (((hh_26.call hb_301 hb_302 hb_303 hb_304 hS_30 rfl (L1 := [(ret_22, 3, 0, .ref uri_25), (open_13, 1, 2, .int size_18), (r0, 13, 7, .ref open_13), (r0, 13, 2, .ref json_3)]) [0, 1, 2, 3] rfl rfl (M1 := []) [] rfl rfl (I1 := []) [] rfl rfl).more hb_305)).addIs hbE_30
          clear hh_26 ht_30 hvm_30 hz_30 hk_30 hS_30 hb_301 hb_302 hb_303 hb_304 hb_305
          clear  hbE_30
          obtain ⟨ret_32, rfl, hg_ret_32⟩ := hr_31
          refine va_castY hx hb hown (htw (.classLink RX11 71 "ProofServer$Document") (jWr_27 _ (List.mem_of_getElem? (i := 20) rfl))) hK7.2.2.1.1.2 (hh_30.recv (C := RX1) (T := TX1) (N := 17) hB3 rfl (by decide) hg_ret_32 hK) dX11_addressed_84 ?_
          rw [hQ]
          exact W.aret (v := .ref ret_32) hx hb hr (Or.inl ⟨_, rfl⟩) (Or.inr ⟨_, rfl⟩) (fun t ht hW => ⟨⟨.ref ret_32, (), rfl, Or.inr ⟨_, rfl, hg_ret_32⟩, ⟨hh_30.rt (M1 := []) [] rfl ht, by rw [ht]; exact hh_30.2.2.2.2.2.2.2.2.sub (L1 := [(jFl, jLs dC dI ca G0 3 none)]) [0] rfl⟩⟩, by rw [ht]; try exact hh_30.1.1, fun q h9 hq => by rw [ht]; try exact hh_30.1.2.1 q h9 hq⟩) hh_30.1.2.2 dX11_addressed_87
  exact L34 (41 - (0 : Int32).toInt : Int).toNat.succ 0 _ _ hh_8 (by first | omega | (refine ⟨?_, ?_⟩ <;> (first | omega | rfl | assumption | decide | exact Or.inl rfl | exact Or.inr rfl | (simp only; omega)))) (by omega) _ (lv_sub hl [2, 1, 0] rfl)
end
section
theorem dX11_closeDocument_0 : decode cX11_closeDocument 0 = .ok (.aload_n 0, 1) := by decide +kernel
theorem dX11_closeDocument_1 : decode cX11_closeDocument 1 = .ok (.invokevirtual 359, 3) := by decide +kernel
theorem dX11_closeDocument_4 : decode cX11_closeDocument 4 = .ok (.astore_n 1, 1) := by decide +kernel
theorem dX11_closeDocument_5 : decode cX11_closeDocument 5 = .ok (.aload_n 0, 1) := by decide +kernel
theorem dX11_closeDocument_6 : decode cX11_closeDocument 6 = .ok (.aload_n 1, 1) := by decide +kernel
theorem dX11_closeDocument_7 : decode cX11_closeDocument 7 = .ok (.invokevirtual 154, 3) := by decide +kernel
theorem dX11_closeDocument_10 : decode cX11_closeDocument 10 = .ok (.istore_n 2, 1) := by decide +kernel
theorem dX11_closeDocument_11 : decode cX11_closeDocument 11 = .ok (.aload_n 1, 1) := by decide +kernel
theorem dX11_closeDocument_12 : decode cX11_closeDocument 12 = .ok (.ifnull 7, 3) := by decide +kernel
theorem dX11_closeDocument_15 : decode cX11_closeDocument 15 = .ok (.iload_n 2, 1) := by decide +kernel
theorem dX11_closeDocument_16 : decode cX11_closeDocument 16 = .ok (.ifCond .ge 4, 3) := by decide +kernel
theorem dX11_closeDocument_19 : decode cX11_closeDocument 19 = .ok (.return_, 1) := by decide +kernel
theorem dX11_closeDocument_20 : decode cX11_closeDocument 20 = .ok (.aload_n 0, 1) := by decide +kernel
theorem dX11_closeDocument_21 : decode cX11_closeDocument 21 = .ok (.aload_n 1, 1) := by decide +kernel
theorem dX11_closeDocument_22 : decode cX11_closeDocument 22 = .ok (.invokevirtual 403, 3) := by decide +kernel
theorem dX11_closeDocument_25 : decode cX11_closeDocument 25 = .ok (.aload_n 0, 1) := by decide +kernel
theorem dX11_closeDocument_26 : decode cX11_closeDocument 26 = .ok (.aload_n 1, 1) := by decide +kernel
theorem dX11_closeDocument_27 : decode cX11_closeDocument 27 = .ok (.invokevirtual 397, 3) := by decide +kernel
theorem dX11_closeDocument_30 : decode cX11_closeDocument 30 = .ok (.aload_n 0, 1) := by decide +kernel
theorem dX11_closeDocument_31 : decode cX11_closeDocument 31 = .ok (.getfield 61, 3) := by decide +kernel
theorem dX11_closeDocument_34 : decode cX11_closeDocument 34 = .ok (.iload_n 2, 1) := by decide +kernel
theorem dX11_closeDocument_35 : decode cX11_closeDocument 35 = .ok (.invokeinterface 423 2, 5) := by decide +kernel
theorem dX11_closeDocument_40 : decode cX11_closeDocument 40 = .ok (.pop, 1) := by decide +kernel
theorem dX11_closeDocument_41 : decode cX11_closeDocument 41 = .ok (.aload_n 0, 1) := by decide +kernel
theorem dX11_closeDocument_42 : decode cX11_closeDocument 42 = .ok (.aload_n 1, 1) := by decide +kernel
theorem dX11_closeDocument_43 : decode cX11_closeDocument 43 = .ok (.iconst 0, 1) := by decide +kernel
theorem dX11_closeDocument_44 : decode cX11_closeDocument 44 = .ok (.invokevirtual 378, 3) := by decide +kernel
theorem dX11_closeDocument_47 : decode cX11_closeDocument 47 = .ok (.return_, 1) := by decide +kernel
end
section
-- Bytes that stay small; new Bytes
theorem jPw.h128 {n : Nat} (h : jPw n) (h1 : n < 128) : n ≤ 64 := by
  obtain ⟨k, hk, rfl⟩ := h
  by_cases q : k ≤ 2
  · have h4 : 2 ^ k ≤ 2 ^ 2 := Nat.pow_le_pow_right (by decide) q
    have h3 : (2 : Nat) ^ 2 = 4 := by decide
    omega
  · have h4 : 2 ^ 3 ≤ 2 ^ k := Nat.pow_le_pow_right (by decide) (by omega)
    have h3 : (2 : Nat) ^ 3 = 8 := by decide
    omega
theorem jPw.z16 : jPw 16 := ⟨0, by decide, by decide⟩
/-- what a callee writes of an object that is new -/
theorem jOl.trN {D : va_G} {G G1 : jT} {k r : Nat} {rs : List Nat} {H0 H H1 : Heap} (h : jOl D G k rs H0 H) (hle : jLe G G1) (h1 : jOw D G1 k r H H1) (hr : ∀ t, G r ≠ some t) : jOl D G k rs H0 H1 := fun a n i v hne ha hf => h1 a n i v (fun q => hr _ (by rw [← q]; exact ha)) (hle _ _ ha) (h a n i v hne ha hf)
theorem jTen.pos {v k : Int} (h : jTen v k) (hv : 0 < v) : 1 ≤ k := by
  obtain ⟨h0, e⟩ := h
  by_cases q : k = 0
  · subst q
    have e2 : (10 : Int) ^ (0 : Int).toNat / 10 = 0 := by decide
    omega
  · omega
end
