def EX1_replaceQ : List (Nat × Nat) := [(3, 3), (101, 0)]
set_option maxHeartbeats 4000000 in
set_option maxRecDepth 20000 in
theorem uX1_replaceQ (l : Launch) (dC : Nat → ClassId) (dI : Nat → Nat → Nat) (ca : Nat → ClassId) (base : Nat) (B : jF) (hB : jBok B) (hAp : jAp (dC, dI)) (hB3 : ∀ n G a H, B 3 n G a H ↔ jOb (dC, dI) 3 17 (F3 n G) a H) (hB6 : ∀ n G a H, B 6 n G a H ↔ jOb (dC, dI) 6 12 (F6 n G) a H) (hB101 : ∀ n G a H, B 101 n G a H ↔ jAr (dC, dI) (ca 1) (fun j z => True) n a H) (hB140 : ∀ n G a H, B 140 n G a H ↔ jAr (dC, dI) (ca 1) (fun j z => True) n a H) (hB141 : ∀ n G a H, B 141 n G a H ↔ jAr (dC, dI) (ca 1) (fun j z => True) n a H) (hB142 : ∀ n G a H, B 142 n G a H ↔ jAr (dC, dI) (ca 1) (fun j z => True) n a H) (hB146 : ∀ n G a H, B 146 n G a H ↔ jAr (dC, dI) (ca 1) (fun j z => True) n a H) (G0 : jT) (H0 : Heap) (r0 : Nat) (a1 : Int32) (a2 : Int32) (r3 : Nat) (a4 : Int32) (pl : Int32) (pv : Int32) (wk : Nat) (wi : Nat) (wz : Nat) (fk : Nat → Int32) (fi : Nat → Int32) (fz : Nat → Int32) : Met l yX1_replace (jw yX1_replace cX1_replace 8 (some .boolean)) ({ frames := 2, cells := 0, slots := 0, locals := 61 }) (va_Pc [.ref r0, .int a1, .int a2, .ref r3, .int a4] (fun U => U.heap = H0 ∧ jX B base G0 [] H0 ∧ jG dC dI ca base U ∧ G0 r0 = some (3, 0) ∧ G0 r3 = some (6, 0) ∧ G0 wk = some (140, 1502) ∧ G0 wi = some (141, 1502) ∧ G0 wz = some (142, 1502) ∧ jP (dC, dI) G0 H0 [(r0, 3, 3, .int pl), (r3, 6, 7, .int pv), (r3, 6, 0, .ref wk), (r3, 6, 1, .ref wi), (r3, 6, 2, .ref wz)] ∧ jMc (dC, dI) G0 H0 [(wk, 140, 1502, ca 1, fk), (wi, 141, 1502, ca 1, fi), (wz, 142, 1502, ca 1, fz)] ∧ a1.toInt = 0 ∧ a2.toInt = 0 ∧ pl.toInt = 0 ∧ 0 ≤ a4.toInt ∧ a4.toInt < pv.toInt ∧ pv.toInt ≤ 1502)) (va_Qi (S := Int32) (fun r u => (r = 0 ∨ r = 1) ∧ (0 ≤ u.toInt ∧ u.toInt ≤ 1500 ∧ (u.toInt = 0 ∨ u.toInt = jSo fz a4.toInt))) (fun u t => jRt (dC, dI) B base G0 EX1_replaceQ H0 [(r0, 3, 3, .int u)] t.heap) (jA base)) 0 0 (jA base) := by
  refine Met.ofW (cc := cX1_replace) (maxL := 8) (ret := (some .boolean)) (by decide) rfl ?_
  intro p e s m args below meth c s₁ Bd hml hv
  obtain ⟨rfl, hH0, hX, hG, hg_r0, hg_r3, hg_wk, hg_wi, hg_wz, hP0, hM0, hp0, hp1, hp2, hp3, hp4, hp5⟩ := hv
  have hK := hG.1
  have hx := Bd.exec
  have hb := Bd.bytes
  have hr := Bd.returns
  have hts := atoms_spec (ws := (jw yX1_replace cX1_replace 8 (some .boolean))) Bd.pre
  have htw : ∀ w ∈ jWl, w.before _ s = true := fun w h => hts w (List.mem_cons_of_mem _ h)
  have hown : s.vm.findClass RX1 = some m.cls := findClass_of_methodNamed Bd.named
  have hlocks := Bd.notSynchronized
  obtain ⟨Q, hQ⟩ : ∃ Q, Q = MQ below (va_Qi (S := Int32) (fun r u => (r = 0 ∨ r = 1) ∧ (0 ≤ u.toInt ∧ u.toInt ≤ 1500 ∧ (u.toInt = 0 ∨ u.toInt = jSo fz a4.toInt))) (fun u t => jRt (dC, dI) B base G0 EX1_replaceQ H0 [(r0, 3, 3, .int u)] t.heap) (jA base)) ([.ref r0, .int a1, .int a2, .ref r3, .int a4] : List Value).toArray s 0 0 (jA base) := ⟨_, rfl⟩
  rw [← hQ]
  have hl := lv_entry ([.ref r0, .int a1, .int a2, .ref r3, .int a4]) (n := 8) (Nat.le_of_ble_eq_true rfl)
  rw [lg_entry_eq]
  generalize (lg_sl ([.ref r0, .int a1, .int a2, .ref r3, .int a4]) ++ List.replicate (8 - (lg_sl ([.ref r0, .int a1, .int a2, .ref r3, .int a4])).length) Slot.unset).toArray = ls at hl ⊢
  have hl : lv_has ls 8 [(0, .ref r0), (1, .int a1), (2, .int a2), (3, .ref r3), (4, .int a4)] := hl
  generalize hR : (headSpec (jw yX1_replace cX1_replace 8 (some .boolean)) ({ frames := 2, cells := 0, slots := 0, locals := 61 })).room = R
  subst hH0
  have hh : jSt (dC, dI) B base G0 G0 EX1_replaceQ s.heap 0 0 [(r0, 3, 3, .int pl), (r3, 6, 7, .int pv), (r3, 6, 0, .ref wk), (r3, 6, 1, .ref wi), (r3, 6, 2, .ref wz)] [(wk, 140, 1502, ca 1, fk), (wi, 141, 1502, ca 1, fi), (wz, 142, 1502, ca 1, fz)] [] s.heap [] := jSt.start hX hP0 hM0 jIs.nil
  clear hX hP0
  have hk0 : (0 : Int32).toInt = 0 := by decide
  have hk1 : (1 : Int32).toInt = 1 := by decide
  have hk1500 : (1500 : Int32).toInt = 1500 := by decide
  have hly_3_2 := htw (u_lay RX1 TX1 2) (jWc_wsX10 _ (u_in_lay (by decide)))
  have hly_3_3 := htw (u_lay RX1 TX1 3) (jWc_wsX10 _ (u_in_lay (by decide)))
  have hlk_42 := (htw (.fieldLink RX1 42 "ProofServer$Document" "length" "I") (jWr_29 _ (List.mem_of_getElem? (i := 5) rfl)))
  have hlk_15 := (htw (.fieldLink RX1 15 "ProofServer$Document" "text" "[I") (jWr_10 _ (List.mem_of_getElem? (i := 6) rfl)))
  have hrg_a1 := jb_rng a1
  have hrg_a2 := jb_rng a2
  have hrg_a4 := jb_rng a4
  refine lv_aload_n hx hb dX1_replace_0 rfl (lv_at hl 3 rfl) ?_
  refine lv_iload hx hb dX1_replace_1 (lv_at hl 4 rfl) ?_
  refine va_calli (A0 := jA base) (H0 := s.heap) (va_runV (As := [.int a4]) (rest := []) ⟨hx, hb, hml, hown, hts⟩ (uX4_sizeOfW l dC dI ca base B hB hAp hB6 hB142 G0 s.heap r3 a4 pv wk wi wz fk fi fz) (cwV 1 hts (jgV (jWr_36 _ (List.mem_of_getElem? (i := 0) rfl)) (jWr_24 _ (List.mem_of_getElem? (i := 7) rfl)) (jWr_24 _ (List.mem_of_getElem? (i := 8) rfl)) (jWr_1 _ (List.mem_of_getElem? (i := 22) rfl)) (jWr_24 _ (List.mem_of_getElem? (i := 9) rfl))) rfl rfl rfl (by decide +kernel) ⟨by rw [← hR]; exact Nat.le_of_ble_eq_true rfl, by rw [← hR]; exact Nat.le_of_ble_eq_true rfl⟩) ⟨fun a U g mk q => by obtain ⟨q0, q1, q2, qK, q10, q11, q12, q13, q14, q15, q16⟩ := q; exact ⟨q0, q1, q2, jG.calling g mk a qK, q10, q11, q12, q13, q14, q15, q16⟩, hh.recv (C := RX4) (T := TX4) (N := 12) hB6 rfl (by decide) hg_r3 hK, fun U hU hW => ⟨rfl, hU, hh.2.1, hG.step hW hU hh.1, hg_r3, hg_wk, hg_wi, hg_wz, (hh.2.2.1.sub (L1 := [(r3, 6, 7, .int pv), (r3, 6, 0, .ref wk), (r3, 6, 1, .ref wi), (r3, 6, 2, .ref wz)]) [1, 2, 3, 4] rfl), (hh.2.2.2.2.2.2.2.1.sub (L1 := [(wk, 140, 1502, ca 1, fk), (wi, 141, 1502, ca 1, fi), (wz, 142, 1502, ca 1, fz)]) [0, 1, 2] rfl), by first | omega | (refine ⟨?_, ?_⟩ <;> (first | omega | rfl | assumption | decide | exact Or.inl rfl | exact Or.inr rfl | (simp only; omega)))⟩⟩ rfl rfl hl.1 rfl (lv_room (Nat.le_of_ble_eq_true rfl)) dX1_replace_3 ⟨Nat.zero_le _, Nat.zero_le _⟩) hh.1 (fun q _ h => h) (fun q h => h) (fun r_2 u_1 t_1 H_1 locs_1 ht_1 hvm_1 hr_2 hb_1 hz_1 hk_1 hS_1 => ?_)
  rw [ht_1] at hb_1
  obtain ⟨hb_1, hbF_1⟩ := hb_1
  obtain ⟨hb_11, hb_12, hb_13, hb_14, hb_15⟩ := hb_1
  have hh_1 : jSt (dC, dI) B base G0 G0 EX1_replaceQ s.heap 0 0 [(r0, 3, 3, .int pl), (r3, 6, 7, .int pv), (r3, 6, 0, .ref wk), (r3, 6, 1, .ref wi), (r3, 6, 2, .ref wz)] [(wk, 140, 1502, ca 1, fk), (wi, 141, 1502, ca 1, fi), (wz, 142, 1502, ca 1, fz)] [] H_1 locs_1 := ((hh.call hb_11 hb_12 hb_13 hb_14 hS_1 rfl (L1 := [(r0, 3, 3, .int pl), (r3, 6, 7, .int pv), (r3, 6, 0, .ref wk), (r3, 6, 1, .ref wi), (r3, 6, 2, .ref wz)]) [0, 1, 2, 3, 4] rfl rfl (M1 := [(wk, 140, 1502, ca 1, fk), (wi, 141, 1502, ca 1, fi), (wz, 142, 1502, ca 1, fz)]) [0, 1, 2] rfl rfl (I1 := []) [] rfl rfl).more hb_15)
  clear hh ht_1 hvm_1 hz_1 hk_1 hS_1 hb_11 hb_12 hb_13 hb_14 hb_15
  refine lv_istore (lv' := [(5, .int r_2), (0, .ref r0), (1, .int a1), (2, .int a2), (3, .ref r3), (4, .int a4)]) hx hb dX1_replace_6 hl (by decide) rfl (fun ls hl => ?_)
  refine lv_aload_n hx hb dX1_replace_8 rfl (lv_at hl 1 rfl) ?_
  refine j7_read hx hb hown hK (C := RX1) (T := TX1) (N := 17) rfl hly_3_3 hlk_42 (hh_1.at 0 rfl) dX1_replace_9 ?_
  refine lv_iload_n hx hb dX1_replace_12 rfl (lv_at hl 3 rfl) ?_
  refine lv_isub hx hb dX1_replace_13 ?_
  refine lv_topi (fun z_3 ez_3 => ?_)
  have hz_3 : z_3.toInt = pl.toInt - a2.toInt := by rw [ez_3]; exact jb_isub2 (rfl) (rfl) (by omega)
  refine lv_istore (lv' := [(6, .int z_3), (5, .int r_2), (0, .ref r0), (1, .int a1), (2, .int a2), (3, .ref r3), (4, .int a4)]) hx hb dX1_replace_14 hl (by decide) rfl (fun ls hl => ?_)
  refine lv_iload_n hx hb dX1_replace_16 rfl (lv_at hl 3 rfl) ?_
  refine lv_if_lt (tgt := 56) hx hb dX1_replace_17 (by decide) (fun c_4 => ?_) (fun c_4 => ?_)
  · skip
    have c_4' : a1.toInt < 0 := jb_lt (rfl) ((by decide)) c_4
    refine lv_iconst (v := 0) hx hb dX1_replace_56 (by decide) ?_
    rw [hQ]
    exact W.zret (v := 0) hx hb hr (jb_nz (Or.inl rfl)) (fun t ht hW => ⟨⟨0, pl, rfl, ⟨(Or.inl rfl), by (try dsimp only); first | omega | (refine ⟨?_, ?_, ?_⟩ <;> (first | omega | rfl | assumption | decide | exact Or.inl rfl | exact Or.inr rfl | (simp only; omega)))⟩, hh_1.rt (M1 := [(r0, 3, 3, .int pl)]) [0] rfl ht⟩, by rw [ht]; try exact hh_1.1.1, fun q h9 hq => by rw [ht]; try exact hh_1.1.2.1 q h9 hq⟩) hh_1.1.2.2 dX1_replace_57
  · skip
    have c_4' : a1.toInt ≥ 0 := jb_lt_n (rfl) ((by decide)) c_4
    refine lv_iload_n hx hb dX1_replace_20 rfl (lv_at hl 4 rfl) ?_
    refine lv_iload_n hx hb dX1_replace_21 rfl (lv_at hl 3 rfl) ?_
    refine lv_icmp_lt (tgt := 56) hx hb dX1_replace_22 (by decide) (fun c_5 => ?_) (fun c_5 => ?_)
    · skip
      have c_5' : a2.toInt < a1.toInt := jb_lt (rfl) (rfl) c_5
      refine lv_iconst (v := 0) hx hb dX1_replace_56 (by decide) ?_
      rw [hQ]
      exact W.zret (v := 0) hx hb hr (jb_nz (Or.inl rfl)) (fun t ht hW => ⟨⟨0, pl, rfl, ⟨(Or.inl rfl), by (try dsimp only); first | omega | (refine ⟨?_, ?_, ?_⟩ <;> (first | omega | rfl | assumption | decide | exact Or.inl rfl | exact Or.inr rfl | (simp only; omega)))⟩, hh_1.rt (M1 := [(r0, 3, 3, .int pl)]) [0] rfl ht⟩, by rw [ht]; try exact hh_1.1.1, fun q h9 hq => by rw [ht]; try exact hh_1.1.2.1 q h9 hq⟩) hh_1.1.2.2 dX1_replace_57
    · skip
      have c_5' : a2.toInt ≥ a1.toInt := jb_lt_n (rfl) (rfl) c_5
      refine lv_iload hx hb dX1_replace_25 (lv_at hl 0 rfl) ?_
      refine lv_if_lt (tgt := 56) hx hb dX1_replace_27 (by decide) (fun c_6 => ?_) (fun c_6 => ?_)
      · skip
        have c_6' : z_3.toInt < 0 := jb_lt (rfl) ((by decide)) c_6
        refine lv_iconst (v := 0) hx hb dX1_replace_56 (by decide) ?_
        rw [hQ]
        exact W.zret (v := 0) hx hb hr (jb_nz (Or.inl rfl)) (fun t ht hW => ⟨⟨0, pl, rfl, ⟨(Or.inl rfl), by (try dsimp only); first | omega | (refine ⟨?_, ?_, ?_⟩ <;> (first | omega | rfl | assumption | decide | exact Or.inl rfl | exact Or.inr rfl | (simp only; omega)))⟩, hh_1.rt (M1 := [(r0, 3, 3, .int pl)]) [0] rfl ht⟩, by rw [ht]; try exact hh_1.1.1, fun q h9 hq => by rw [ht]; try exact hh_1.1.2.1 q h9 hq⟩) hh_1.1.2.2 dX1_replace_57
      · skip
        have c_6' : z_3.toInt ≥ 0 := jb_lt_n (rfl) ((by decide)) c_6
        refine lv_iload hx hb dX1_replace_30 (lv_at hl 1 rfl) ?_
        refine lv_if_lt (tgt := 56) hx hb dX1_replace_32 (by decide) (fun c_7 => ?_) (fun c_7 => ?_)
        · skip
          have c_7' : r_2.toInt < 0 := jb_lt (rfl) ((by decide)) c_7
          first | (have hr_2q := hr_2.resolve_left (by omega); clear hr_2) | (have hr_2q := hr_2.resolve_right (by omega); clear hr_2) | skip
          refine lv_iconst (v := 0) hx hb dX1_replace_56 (by decide) ?_
          rw [hQ]
          exact W.zret (v := 0) hx hb hr (jb_nz (Or.inl rfl)) (fun t ht hW => ⟨⟨0, pl, rfl, ⟨(Or.inl rfl), by (try dsimp only); first | omega | (refine ⟨?_, ?_, ?_⟩ <;> (first | omega | rfl | assumption | decide | exact Or.inl rfl | exact Or.inr rfl | (simp only; omega)))⟩, hh_1.rt (M1 := [(r0, 3, 3, .int pl)]) [0] rfl ht⟩, by rw [ht]; try exact hh_1.1.1, fun q h9 hq => by rw [ht]; try exact hh_1.1.2.1 q h9 hq⟩) hh_1.1.2.2 dX1_replace_57
        · skip
          have c_7' : r_2.toInt ≥ 0 := jb_lt_n (rfl) ((by decide)) c_7
          first | (have hr_2q := hr_2.resolve_left (by omega); clear hr_2) | (have hr_2q := hr_2.resolve_right (by omega); clear hr_2) | skip
          refine lv_iload hx hb dX1_replace_35 (lv_at hl 1 rfl) ?_
          refine lv_sipush (v := 1500) hx hb dX1_replace_37 (by decide) ?_
          refine lv_icmp_gt (tgt := 56) hx hb dX1_replace_40 (by decide) (fun c_8 => ?_) (fun c_8 => ?_)
          · skip
            have c_8' : r_2.toInt > 1500 := jb_gt (rfl) ((by decide)) c_8
            first | (have hr_2q := hr_2.resolve_left (by omega); clear hr_2) | (have hr_2q := hr_2.resolve_right (by omega); clear hr_2) | skip
            refine lv_iconst (v := 0) hx hb dX1_replace_56 (by decide) ?_
            rw [hQ]
            exact W.zret (v := 0) hx hb hr (jb_nz (Or.inl rfl)) (fun t ht hW => ⟨⟨0, pl, rfl, ⟨(Or.inl rfl), by (try dsimp only); first | omega | (refine ⟨?_, ?_, ?_⟩ <;> (first | omega | rfl | assumption | decide | exact Or.inl rfl | exact Or.inr rfl | (simp only; omega)))⟩, hh_1.rt (M1 := [(r0, 3, 3, .int pl)]) [0] rfl ht⟩, by rw [ht]; try exact hh_1.1.1, fun q h9 hq => by rw [ht]; try exact hh_1.1.2.1 q h9 hq⟩) hh_1.1.2.2 dX1_replace_57
          · skip
            have c_8' : r_2.toInt ≤ 1500 := jb_gt_n (rfl) ((by decide)) c_8
            first | (have hr_2q := hr_2.resolve_left (by omega); clear hr_2) | (have hr_2q := hr_2.resolve_right (by omega); clear hr_2) | skip
            refine lv_iload_n hx hb dX1_replace_43 rfl (lv_at hl 3 rfl) ?_
            refine lv_iload hx hb dX1_replace_44 (lv_at hl 1 rfl) ?_
            refine lv_iadd hx hb dX1_replace_46 ?_
            refine lv_topi (fun z_9 ez_9 => ?_)
            have hz_9 : z_9.toInt = a1.toInt + r_2.toInt := by rw [ez_9]; exact jb_iadd2 (rfl) (rfl) (by omega)
            refine lv_iload hx hb dX1_replace_47 (lv_at hl 0 rfl) ?_
            refine lv_iadd hx hb dX1_replace_49 ?_
            refine lv_topi (fun z_10 ez_10 => ?_)
            have hz_10 : z_10.toInt = z_9.toInt + z_3.toInt := by rw [ez_10]; exact jb_iadd2 (rfl) (rfl) (by omega)
            refine lv_sipush (v := 1500) hx hb dX1_replace_50 (by decide) ?_
            refine lv_icmp_le (tgt := 58) hx hb dX1_replace_53 (by decide) (fun c_11 => ?_) (fun c_11 => ?_)
            · skip
              have c_11' : z_10.toInt ≤ 1500 := jb_le (rfl) ((by decide)) c_11
              refine lv_aload_n hx hb dX1_replace_58 rfl (lv_at hl 2 rfl) ?_
              obtain ⟨v_12, hv_12, hh_13⟩ := hh_1.pin (C := RX1) (T := TX1) (N := 17) hB3 rfl (by decide) hg_r0 (i := 2) (by decide) rfl
              clear hh_1
              obtain ⟨text_14, rfl, hg_text_14⟩ := hv_12
              refine j7_read hx hb hown hK (C := RX1) (T := TX1) (N := 17) rfl hly_3_2 hlk_15 (hh_13.at 0 rfl) dX1_replace_59 ?_
              refine lv_iload_n hx hb dX1_replace_62 rfl (lv_at hl 4 rfl) ?_
              refine lv_aload_n hx hb dX1_replace_63 rfl (lv_at hl 2 rfl) ?_
              refine j7_read hx hb hown hK (C := RX1) (T := TX1) (N := 17) rfl hly_3_2 hlk_15 (hh_13.at 0 rfl) dX1_replace_64 ?_
              refine lv_iload_n hx hb dX1_replace_67 rfl (lv_at hl 3 rfl) ?_
              refine lv_iload hx hb dX1_replace_68 (lv_at hl 1 rfl) ?_
              refine lv_iadd hx hb dX1_replace_70 ?_
              refine lv_topi (fun z_15 ez_15 => ?_)
              have hz_15 : z_15.toInt = a1.toInt + r_2.toInt := by rw [ez_15]; exact jb_iadd2 (rfl) (rfl) (by omega)
              refine lv_iload hx hb dX1_replace_71 (lv_at hl 0 rfl) ?_
              refine j7_acopyi hx hb (by rw [hml]; exact hl.1.symm) hown (htw (.methodLink RX1 36 arraycopyName) (jWr_35 _ (List.mem_of_getElem? (i := 23) rfl))) (htw (.native arraycopyName) (jWr_16 _ (List.mem_of_getElem? (i := 19) rfl))) (htw (.static arraycopyName) (jWr_16 _ (List.mem_of_getElem? (i := 20) rfl))) (htw (.initialized "java/lang/System") (jWr_16 _ (List.mem_of_getElem? (i := 21) rfl))) hK hh_13 hB hB101 hB101 1 rfl (by decide) (by decide) (by decide) rfl rfl rfl hg_text_14 hg_text_14 (x := a2.toInt) (y := z_15.toInt) (z := z_3.toInt) rfl rfl rfl (by omega) (fun _ _ _ => trivial) (by rw [← hR]; exact Nat.le_of_ble_eq_true rfl) (by rw [← hR]; exact Nat.le_of_ble_eq_true rfl) dX1_replace_73 (fun H_16 locs_16 hr_16 hh_16 => ?_)
              clear hr_16
              clear hh_13
              refine lv_iconst (v := 0) hx hb dX1_replace_76 (by decide) ?_
              refine lv_istore (lv' := [(7, .int 0), (6, .int z_3), (5, .int r_2), (0, .ref r0), (1, .int a1), (2, .int a2), (3, .ref r3), (4, .int a4)]) hx hb dX1_replace_77 hl (by decide) rfl (fun ls hl => ?_)
              have L79 : ∀ (N : Nat) (v7_17 : Int32) (H_17 : Heap) (locs_17 : List Loc), jSt (dC, dI) B base G0 G0 EX1_replaceQ s.heap 0 0 [(r0, 3, 2, .ref text_14), (r0, 3, 3, .int pl), (r3, 6, 7, .int pv), (r3, 6, 0, .ref wk), (r3, 6, 1, .ref wi), (r3, 6, 2, .ref wz)] [(wk, 140, 1502, ca 1, fk), (wi, 141, 1502, ca 1, fi), (wz, 142, 1502, ca 1, fz)] [] H_17 locs_17 → (0 ≤ v7_17.toInt ∧ v7_17.toInt ≤ r_2.toInt) → (r_2.toInt - v7_17.toInt : Int) < N → ∀ ls : Array Slot, lv_has ls 8 [(0, .ref r0), (1, .int a1), (2, .int a2), (3, .ref r3), (4, .int a4), (5, .int r_2), (6, .int z_3), (7, .int v7_17)] → W p l e R s m ([.ref r0, .int a1, .int a2, .ref r3, .int a4] : List Value).toArray below meth c H_17 locs_17 0 0 Q (F0 m 79 ls []) := by
                intro N
                induction N with
                | zero => intro v7_17 H_17 locs_17 hh_17  hi_17 hm; exact absurd hm (by omega)
                | succ N L79 =>
                  intro v7_17 H_17 locs_17 hh_17  hi_17 hm_17 ls hl
                  obtain ⟨hi_17_0, hi_17_1⟩ := hi_17
                  try clear hr_2
                  refine lv_iload hx hb dX1_replace_79 (lv_at hl 7 rfl) ?_
                  refine lv_iload hx hb dX1_replace_81 (lv_at hl 5 rfl) ?_
                  refine lv_icmp_ge (tgt := 109) hx hb dX1_replace_83 (by decide) (fun c_18 => ?_) (fun c_18 => ?_)
                  · skip
                    have c_18' : v7_17.toInt ≥ r_2.toInt := jb_ge (rfl) (rfl) c_18
                    refine lv_aload_n hx hb dX1_replace_109 rfl (lv_at hl 0 rfl) ?_
                    refine lv_iload_n hx hb dX1_replace_110 rfl (lv_at hl 1 rfl) ?_
                    refine lv_iload hx hb dX1_replace_111 (lv_at hl 5 rfl) ?_
                    refine lv_iadd hx hb dX1_replace_113 ?_
                    refine lv_topi (fun z_19 ez_19 => ?_)
                    have hz_19 : z_19.toInt = a1.toInt + r_2.toInt := by rw [ez_19]; exact jb_iadd2 (rfl) (rfl) (by omega)
                    refine lv_iload hx hb dX1_replace_114 (lv_at hl 6 rfl) ?_
                    refine lv_iadd hx hb dX1_replace_116 ?_
                    refine lv_topi (fun z_20 ez_20 => ?_)
                    have hz_20 : z_20.toInt = z_19.toInt + z_3.toInt := by rw [ez_20]; exact jb_iadd2 (rfl) (rfl) (by omega)
                    refine j7_put hx hb hown hK hh_17 hB hAp hB3 (C := RX1) (T := TX1) (N := 17) rfl (by decide) hg_r0 (i := 3) (by decide) hly_3_3 rfl hlk_42 rfl (ty := .int) (v := .int z_20) (by decide +kernel) rfl rfl (⟨_, rfl, by omega, by omega⟩) rfl (L1 := [(r0, 3, 2, .ref text_14), (r3, 6, 7, .int pv), (r3, 6, 0, .ref wk), (r3, 6, 1, .ref wi), (r3, 6, 2, .ref wz)]) [0, 2, 3, 4, 5] rfl rfl rfl dX1_replace_117 (fun H_21 locs_21 hh_21 => ?_)
                    clear hh_17
                    refine lv_iconst (v := 1) hx hb dX1_replace_120 (by decide) ?_
                    rw [hQ]
                    exact W.zret (v := 1) hx hb hr (jb_nz (Or.inr rfl)) (fun t ht hW => ⟨⟨1, z_20, rfl, ⟨(Or.inr rfl), by (try dsimp only); first | omega | (refine ⟨?_, ?_, ?_⟩ <;> (first | omega | rfl | assumption | decide | exact Or.inl rfl | exact Or.inr rfl | (simp only; omega)))⟩, hh_21.rt (M1 := [(r0, 3, 3, .int z_20)]) [0] rfl ht⟩, by rw [ht]; try exact hh_21.1.1, fun q h9 hq => by rw [ht]; try exact hh_21.1.2.1 q h9 hq⟩) hh_21.1.2.2 dX1_replace_121
                  · skip
                    have c_18' : v7_17.toInt < r_2.toInt := jb_ge_n (rfl) (rfl) c_18
                    refine lv_aload_n hx hb dX1_replace_86 rfl (lv_at hl 0 rfl) ?_
                    refine j7_read hx hb hown hK (C := RX1) (T := TX1) (N := 17) rfl hly_3_2 hlk_15 (hh_17.at 0 rfl) dX1_replace_87 ?_
                    refine lv_iload_n hx hb dX1_replace_90 rfl (lv_at hl 1 rfl) ?_
                    refine lv_iload hx hb dX1_replace_91 (lv_at hl 7 rfl) ?_
                    refine lv_iadd hx hb dX1_replace_93 ?_
                    refine lv_topi (fun z_22 ez_22 => ?_)
                    have hz_22 : z_22.toInt = a1.toInt + v7_17.toInt := by rw [ez_22]; exact jb_iadd2 (rfl) (rfl) (by omega)
                    refine lv_aload_n hx hb dX1_replace_94 rfl (lv_at hl 3 rfl) ?_
                    refine lv_iload hx hb dX1_replace_95 (lv_at hl 4 rfl) ?_
                    refine lv_iload hx hb dX1_replace_97 (lv_at hl 7 rfl) ?_
                    refine va_calli (A0 := jA base) (H0 := s.heap) (va_runV (As := [.int a4, .int v7_17]) (rest := [.int z_22, .ref text_14]) ⟨hx, hb, hml, hown, hts⟩ (uX4_unitAt l dC dI ca base B hB hAp hB6 hB140 hB141 hB142 hB146 G0 H_17 r3 a4 v7_17) (cwV 2 hts (jgV (jWr_36 _ (List.mem_of_getElem? (i := 1) rfl)) (jWr_25 _ (List.mem_of_getElem? (i := 5) rfl)) (jWr_25 _ (List.mem_of_getElem? (i := 6) rfl)) (jWr_1 _ (List.mem_of_getElem? (i := 22) rfl)) (jWr_25 _ (List.mem_of_getElem? (i := 7) rfl))) rfl rfl rfl (by decide +kernel) ⟨by rw [← hR]; exact Nat.le_of_ble_eq_true rfl, by rw [← hR]; exact Nat.le_of_ble_eq_true rfl⟩) ⟨fun a U g mk q => by obtain ⟨q0, q1, q2, qK, q10, q11, q12⟩ := q; exact ⟨q0, q1, q2, jG.calling g mk a qK, q10, q11, q12⟩, hh_17.recv (C := RX4) (T := TX4) (N := 12) hB6 rfl (by decide) hg_r3 hK, fun U hU hW => ⟨rfl, hU, hh_17.2.1, hG.step hW hU hh_17.1, hg_r3, jP.nil, trivial⟩⟩ rfl rfl hl.1 rfl (lv_room (Nat.le_of_ble_eq_true rfl)) dX1_replace_99 ⟨Nat.zero_le _, Nat.zero_le _⟩) hh_17.1 (fun q _ h => h) (fun q h => h) (fun r_24 u_23 t_23 H_23 locs_23 ht_23 hvm_23 hr_24 hb_23 hz_23 hk_23 hS_23 => ?_)
                    rw [ht_23] at hb_23
                    obtain ⟨hb_231, hb_232, hb_233, hb_234, hb_235⟩ := hb_23
                    have hh_23 : jSt (dC, dI) B base G0 G0 EX1_replaceQ s.heap 0 0 [(r0, 3, 2, .ref text_14), (r0, 3, 3, .int pl), (r3, 6, 7, .int pv), (r3, 6, 0, .ref wk), (r3, 6, 1, .ref wi), (r3, 6, 2, .ref wz)] [(wk, 140, 1502, ca 1, fk), (wi, 141, 1502, ca 1, fi), (wz, 142, 1502, ca 1, fz)] [] H_23 locs_23 := ((hh_17.call hb_231 hb_232 hb_233 hb_234 hS_23 rfl (L1 := [(r0, 3, 2, .ref text_14), (r0, 3, 3, .int pl), (r3, 6, 7, .int pv), (r3, 6, 0, .ref wk), (r3, 6, 1, .ref wi), (r3, 6, 2, .ref wz)]) [0, 1, 2, 3, 4, 5] rfl rfl (M1 := [(wk, 140, 1502, ca 1, fk), (wi, 141, 1502, ca 1, fi), (wz, 142, 1502, ca 1, fz)]) [0, 1, 2] rfl rfl (I1 := []) [] rfl rfl).more hb_235)
                    clear hh_17 ht_23 hvm_23 hz_23 hk_23 hS_23 hb_231 hb_232 hb_233 hb_234 hb_235
                    refine j7_iast hx hb hK hh_23 hB hB101 1 rfl (by decide) (by decide) rfl rfl rfl hg_text_14 (x := z_22.toInt) (rfl) (by omega) (trivial) dX1_replace_102 (fun H_25 locs_25 hh_25 => ?_)
                    clear hh_23
                    obtain ⟨z_26, ez_26⟩ : ∃ y : Int32, y = v7_17 + 1 := ⟨_, rfl⟩
                    refine lv_iinc (v := z_26) (lv' := [(7, .int z_26), (0, .ref r0), (1, .int a1), (2, .int a2), (3, .ref r3), (4, .int a4), (5, .int r_2), (6, .int z_3)]) hx hb dX1_replace_103 hl (k := 7) rfl (by rw [ez_26]; rfl) (by decide) rfl (fun ls hl => ?_)
                    have hz_26 : z_26.toInt = v7_17.toInt + 1 := by rw [ez_26]; exact jb_iadd2 (rfl) (by decide) (by omega)
                    refine lv_goto (tgt := 79) hx hb dX1_replace_106 (by decide) ?_
                    exact L79 z_26 _ _ hh_25 (by first | omega | (refine ⟨?_, ?_⟩ <;> (first | omega | rfl | assumption | decide | exact Or.inl rfl | exact Or.inr rfl | (simp only; omega)))) (by omega) _ (lv_sub hl [1, 2, 3, 4, 5, 6, 7, 0] rfl)
              exact L79 (r_2.toInt - (0 : Int32).toInt : Int).toNat.succ 0 _ _ hh_16 (by first | omega | (refine ⟨?_, ?_⟩ <;> (first | omega | rfl | assumption | decide | exact Or.inl rfl | exact Or.inr rfl | (simp only; omega)))) (by omega) _ (lv_sub hl [3, 4, 5, 6, 7, 2, 1, 0] rfl)
            · skip
              have c_11' : z_10.toInt > 1500 := jb_le_n (rfl) ((by decide)) c_11
              refine lv_iconst (v := 0) hx hb dX1_replace_56 (by decide) ?_
              rw [hQ]
              exact W.zret (v := 0) hx hb hr (jb_nz (Or.inl rfl)) (fun t ht hW => ⟨⟨0, pl, rfl, ⟨(Or.inl rfl), by (try dsimp only); first | omega | (refine ⟨?_, ?_, ?_⟩ <;> (first | omega | rfl | assumption | decide | exact Or.inl rfl | exact Or.inr rfl | (simp only; omega)))⟩, hh_1.rt (M1 := [(r0, 3, 3, .int pl)]) [0] rfl ht⟩, by rw [ht]; try exact hh_1.1.1, fun q h9 hq => by rw [ht]; try exact hh_1.1.2.1 q h9 hq⟩) hh_1.1.2.2 dX1_replace_57
