theorem dX3_withHypothesis_0 : decode cX3_withHypothesis 0 = .ok (.new 10, 3) := by decide +kernel
theorem dX3_withHypothesis_3 : decode cX3_withHypothesis 3 = .ok (.dup, 1) := by decide +kernel
theorem dX3_withHypothesis_4 : decode cX3_withHypothesis 4 = .ok (.aload_n 0, 1) := by decide +kernel
theorem dX3_withHypothesis_5 : decode cX3_withHypothesis 5 = .ok (.getfield 9, 3) := by decide +kernel
theorem dX3_withHypothesis_8 : decode cX3_withHypothesis 8 = .ok (.aload_n 0, 1) := by decide +kernel
theorem dX3_withHypothesis_9 : decode cX3_withHypothesis 9 = .ok (.getfield 15, 3) := by decide +kernel
theorem dX3_withHypothesis_12 : decode cX3_withHypothesis 12 = .ok (.iload_n 1, 1) := by decide +kernel
theorem dX3_withHypothesis_13 : decode cX3_withHypothesis 13 = .ok (.invokestatic 28, 3) := by decide +kernel
theorem dX3_withHypothesis_16 : decode cX3_withHypothesis 16 = .ok (.aload_n 0, 1) := by decide +kernel
theorem dX3_withHypothesis_17 : decode cX3_withHypothesis 17 = .ok (.getfield 18, 3) := by decide +kernel
theorem dX3_withHypothesis_20 : decode cX3_withHypothesis 20 = .ok (.aload_n 2, 1) := by decide +kernel
theorem dX3_withHypothesis_21 : decode cX3_withHypothesis 21 = .ok (.invokestatic 34, 3) := by decide +kernel
theorem dX3_withHypothesis_24 : decode cX3_withHypothesis 24 = .ok (.aload_n 3, 1) := by decide +kernel
theorem dX3_withHypothesis_25 : decode cX3_withHypothesis 25 = .ok (.invokespecial 25, 3) := by decide +kernel
theorem dX3_withHypothesis_28 : decode cX3_withHypothesis 28 = .ok (.areturn, 1) := by decide +kernel
def EX3_withHypothesis : List (Nat × Nat) := [(101, 0)]
set_option maxHeartbeats 4000000 in
set_option maxRecDepth 20000 in
theorem uX3_withHypothesis (l : Launch) (dC : Nat → ClassId) (dI : Nat → Nat → Nat) (ca : Nat → ClassId) (base : Nat) (B : jF) (hB : jBok B) (hAp : jAp (dC, dI)) (hB5 : ∀ n G a H, B 5 n G a H ↔ jOb (dC, dI) 5 4 (F5 n G) a H) (hB101 : ∀ n G a H, B 101 n G a H ↔ jAr (dC, dI) (ca 1) (fun j z => True) n a H) (hB280 : ∀ n G a H, B 280 n G a H ↔ jAr (dC, dI) (ca 1) (fun j z => -1 ≤ z.toInt) n a H) (hB313 : ∀ n G a H, B 313 n G a H ↔ jAq (dC, dI) (ca 8) (jQk 280 80) n G a H) (G0 : jT) (H0 : Heap) (r0 : Nat) (a1 : Int32) (r2 : Nat) (r3 : Nat) (n0 : Nat) (n2 : Nat) (n3 : Nat) (LC LS : Nat) : Met l yX3_withHypothesis (jw yX3_withHypothesis cX3_withHypothesis 4 (some (.object "ProofServer$Goal"))) ({ frames := 3, cells := LC - H0.size, slots := LS - jTot H0, locals := 105 }) (va_Pc [.ref r0, .int a1, .ref r2, .ref r3] (fun U => U.heap = H0 ∧ jX B base G0 [] H0 ∧ jG dC dI ca base U ∧ jK5 dC dI ca U ∧ G0 r0 = some (5, n0) ∧ G0 r2 = some (280, n2) ∧ G0 r3 = some (280, n3) ∧ jP (dC, dI) G0 H0 [] ∧ H0.size + 3 ≤ LC ∧ jTot H0 + 30 ≤ LS ∧ (n0 % 10 = 1 ∨ n0 % 10 = 2) ∧ n0 / 10 ≤ 8 ∧ n2 ≤ 80 ∧ n3 ≤ 80)) (jQx (S := Nat × jT) (fun v u => jRf u.2 5 u.1 v ∧ jNwv v H0 ∧ u.1 / 10 = n0 / 10 + 1 ∧ ((u.1 % 10 = 1 ∧ n0 % 10 = 1 ∧ n0 / 10 < 8) ∨ (u.1 % 10 = 2 ∧ n0 % 10 = 2) ∨ (u.1 % 10 = 3 ∧ 8 ≤ n0 / 10))) (fun u t => jRa (dC, dI) B base G0 u.2 EX3_withHypothesis H0 (3) (24) [] t.heap ∧ (jNk [0, 1, 2, 3, 4, 6, 7, 8, 9, 10, 11, 12, 13, 14, 15, 16]) G0 u.2) (jA base)) (LC - H0.size) (LS - jTot H0) (jA base) := by
  refine Met.ofW (cc := cX3_withHypothesis) (maxL := 4) (ret := (some (.object "ProofServer$Goal"))) (by decide) rfl ?_
  intro p e s m args below meth c s₁ Bd hml hv
  obtain ⟨rfl, hH0, hX, hG, hK5, hg_r0, hg_r2, hg_r3, hP0, hLC0, hLS0, hp0, hp1, hp2, hp3⟩ := hv
  have hK := hG.1
  have hx := Bd.exec
  have hb := Bd.bytes
  have hr := Bd.returns
  have hts := atoms_spec (ws := (jw yX3_withHypothesis cX3_withHypothesis 4 (some (.object "ProofServer$Goal")))) Bd.pre
  have htw : ∀ w ∈ jWl, w.before _ s = true := fun w h => hts w (List.mem_cons_of_mem _ h)
  have hown : s.vm.findClass RX3 = some m.cls := findClass_of_methodNamed Bd.named
  have hlocks := Bd.notSynchronized
  obtain ⟨Q, hQ⟩ : ∃ Q, Q = MQ below (jQx (S := Nat × jT) (fun v u => jRf u.2 5 u.1 v ∧ jNwv v H0 ∧ u.1 / 10 = n0 / 10 + 1 ∧ ((u.1 % 10 = 1 ∧ n0 % 10 = 1 ∧ n0 / 10 < 8) ∨ (u.1 % 10 = 2 ∧ n0 % 10 = 2) ∨ (u.1 % 10 = 3 ∧ 8 ≤ n0 / 10))) (fun u t => jRa (dC, dI) B base G0 u.2 EX3_withHypothesis H0 (3) (24) [] t.heap ∧ (jNk [0, 1, 2, 3, 4, 6, 7, 8, 9, 10, 11, 12, 13, 14, 15, 16]) G0 u.2) (jA base)) ([.ref r0, .int a1, .ref r2, .ref r3] : List Value).toArray s (LC - H0.size) (LS - jTot H0) (jA base) := ⟨_, rfl⟩
  rw [← hQ]
  have hl := lv_entry ([.ref r0, .int a1, .ref r2, .ref r3]) (n := 4) (Nat.le_of_ble_eq_true rfl)
  rw [lg_entry_eq]
  generalize (lg_sl ([.ref r0, .int a1, .ref r2, .ref r3]) ++ List.replicate (4 - (lg_sl ([.ref r0, .int a1, .ref r2, .ref r3])).length) Slot.unset).toArray = ls at hl ⊢
  have hl : lv_has ls 4 [(0, .ref r0), (1, .int a1), (2, .ref r2), (3, .ref r3)] := hl
  generalize hR : (headSpec (jw yX3_withHypothesis cX3_withHypothesis 4 (some (.object "ProofServer$Goal"))) ({ frames := 3, cells := LC - H0.size, slots := LS - jTot H0, locals := 105 })).room = R
  subst hH0
  have hh : jSt (dC, dI) B base G0 G0 EX3_withHypothesis s.heap 0 0 [] [] [] s.heap [] := jSt.start hX hP0 jMc.nil jIs.nil
  clear hX hP0
  have hk0 : (0 : Int32).toInt = 0 := by decide
  have hk1 : (1 : Int32).toInt = 1 := by decide
  have hly_5_0 := htw (u_lay RX3 TX3 0) (jWc_wsX30 _ (u_in_lay (by decide)))
  have hly_5_1 := htw (u_lay RX3 TX3 1) (jWc_wsX30 _ (u_in_lay (by decide)))
  have hly_5_2 := htw (u_lay RX3 TX3 2) (jWc_wsX30 _ (u_in_lay (by decide)))
  have hlk_9 := (htw (.fieldLink RX3 9 "ProofServer$Goal" "variables" "[I") (jWr_83 _ (List.mem_of_getElem? (i := 10) rfl)))
  have hlk_15 := (htw (.fieldLink RX3 15 "ProofServer$Goal" "names" "[I") (jWr_83 _ (List.mem_of_getElem? (i := 11) rfl)))
  have hlk_18 := (htw (.fieldLink RX3 18 "ProofServer$Goal" "hypotheses" "[[I") (jWr_83 _ (List.mem_of_getElem? (i := 12) rfl)))
  have hrg_a1 := jb_rng a1
  have hbs : base ≤ s.heap.size := Nat.le_of_lt (Nat.lt_of_le_of_lt (hh.ab hg_r0).1 (hh.ab hg_r0).2)
  have hRc : R.cells = LC - s.heap.size := by rw [← hR]; rfl
  have hRs : R.slots = LS - jTot s.heap := by rw [← hR]; rfl
  obtain ⟨kh, hqa, hqb⟩ : ∃ q : Nat, q / 10 = n0 / 10 + 1 ∧ ((q % 10 = 1 ∧ n0 % 10 = 1 ∧ n0 / 10 < 8) ∨ (q % 10 = 2 ∧ n0 % 10 = 2) ∨ (q % 10 = 3 ∧ n0 % 10 = 1 ∧ 8 ≤ n0 / 10)) := by
    rcases (by omega : (n0 % 10 = 1 ∧ n0 / 10 < 8) ∨ n0 % 10 = 2 ∨ (n0 % 10 = 1 ∧ 8 ≤ n0 / 10)) with h | h | h
    · exact ⟨10 * (n0 / 10 + 1) + 1, by omega, by omega⟩
    · exact ⟨10 * (n0 / 10 + 1) + 2, by omega, by omega⟩
    · exact ⟨10 * (n0 / 10 + 1) + 3, by omega, by omega⟩
  have hsz_1 := hh.2.2.2.2.2.1
  have htt_1 := hh.2.2.2.2.2.2.1
  refine j7_newo (k := 5) (C := RX3) (T := TX3) (N := 4) (fs := [.null, .null, .null, .null]) hx hb htw jWc_wsX30 (fun k => ([(.array .int), (.array .int), (.array (.array .int)), (.array .int)] : List FieldType).getD k .int) (by decide +kernel) hown (htw (.classLink RX3 10 RX3) (jWr_85 _ (List.mem_of_getElem? (i := 4) rfl))) (htw (.instantiable RX3 4) (jWr_82 _ (List.mem_of_getElem? (i := 9) rfl))) (htw (.initialized RX3) (jWr_82 _ (List.mem_of_getElem? (i := 10) rfl))) hK rfl (fun j hj => by rcases (by omega : j = 0 ∨ j = 1 ∨ j = 2 ∨ j = 3) with rfl | rfl | rfl | rfl <;> rfl) hh hB (by rw [hRc]; omega) (by rw [hRs]; omega) dX3_withHypothesis_0 (fun H_1 hraw_1 hfr_1 hnr_1 hh_1 => ?_)
  have hke_1 : jKe G0 G0 s.heap H_1 := jKe.raw hfr_1
  have hbr_1 : base ≤ s.heap.size := Nat.le_trans hbs hh.1.1
  have hsy_1 : s.heap.size ≤ s.heap.size := hh.1.1
  clear hh
  refine lv_dup hx hb dX3_withHypothesis_3 rfl ?_
  refine lv_aload_n hx hb dX3_withHypothesis_4 rfl (lv_at hl 0 rfl) ?_
  obtain ⟨v_2, hv_2, hh_3⟩ := hh_1.pin (C := RX3) (T := TX3) (N := 4) hB5 rfl (by decide) hg_r0 (i := 0) (by decide) rfl
  clear hh_1
  obtain ⟨variables_4, nvariables_4, rfl, hg_variables_4, hvavariables_4, hvbvariables_4, hvcvariables_4⟩ := hv_2
  refine j7_read hx hb hown hK (C := RX3) (T := TX3) (N := 4) rfl hly_5_0 hlk_9 (hh_3.at 0 rfl) dX3_withHypothesis_5 ?_
  refine lv_aload_n hx hb dX3_withHypothesis_8 rfl (lv_at hl 0 rfl) ?_
  obtain ⟨v_5, hv_5, hh_6⟩ := hh_3.pin (C := RX3) (T := TX3) (N := 4) hB5 rfl (by decide) hg_r0 (i := 1) (by decide) rfl
  clear hh_3
  obtain ⟨names_7, rfl, hg_names_7⟩ := hv_5
  refine j7_read hx hb hown hK (C := RX3) (T := TX3) (N := 4) rfl hly_5_1 hlk_15 (hh_6.at 0 rfl) dX3_withHypothesis_9 ?_
  refine lv_iload_n hx hb dX3_withHypothesis_12 rfl (lv_at hl 1 rfl) ?_
  have hsz_8 := hh_6.2.2.2.2.2.1
  have htt_8 := hh_6.2.2.2.2.2.2.1
  refine W.room (fun hrc_8 hrs_8 => ?_)
  refine j_callx (A0 := jA base) (H0 := s.heap) (va_runS (As := [.ref names_7, .int a1]) (rest := [.ref variables_4, .ref s.heap.size, .ref s.heap.size]) ⟨hx, hb, hml, hown, hts⟩ (uX9_longer l dC dI ca base B hB hAp hB101 G0 H_1 names_7 a1 (n0 / 10) LC LS) (va_cwS 2 hts (jgS (jWr_85 _ (List.mem_of_getElem? (i := 5) rfl)) (jWr_81 _ (List.mem_of_getElem? (i := 20) rfl)) (jWr_4 _ (List.mem_of_getElem? (i := 18) rfl)) (jWr_81 _ (List.mem_of_getElem? (i := 21) rfl))) rfl rfl rfl (by decide +kernel) ⟨by rw [← hR]; exact Nat.le_of_ble_eq_true rfl, by rw [← hR]; exact Nat.le_of_ble_eq_true rfl⟩) ⟨fun a U g mk q => by obtain ⟨q0, q1, q2, qK, q10, q11, q12⟩ := q; exact ⟨q0, q1, q2, jG.calling g mk a qK, q10, q11, q12⟩, fun U hU hW => ⟨rfl, hU, hh_6.2.1, hG.step hW hU hh_6.1, hg_names_7, jP.nil, by first | omega | rfl | assumption | decide | exact Or.inl rfl | exact Or.inr rfl | (simp only; omega)⟩⟩ rfl rfl hl.1 rfl (lv_room (Nat.le_of_ble_eq_true rfl)) dX3_withHypothesis_13 ⟨by rw [hRc]; omega, by rw [hRs]; omega⟩) hh_6.1 (fun q _ h => h) (fun q h => h) (fun r_9 u_8 t_8 H_8 locs_8 ht_8 hvm_8 hr_9 hb_8 hz_8 hk_8 hS_8 => ?_)
  rw [ht_8] at hb_8
  obtain ⟨m_ret_8, G_8⟩ := u_8
  simp only at hb_8
  obtain ⟨⟨hb_81, hb_82, hb_83, hb_84, hb_85, hb_86⟩, hN_8, hbK_8⟩ := hb_8
  have hN_8 : (jNk [0, 1, 2, 3, 4, 6, 7, 8, 9, 10, 11, 12, 13, 14, 15, 16]) G0 G_8 := hN_8.sub (by decide)
  have hh_8 : jSt (dC, dI) B base G0 G_8 EX3_withHypothesis s.heap ((0 + 1) + (1)) ((0 + 4) + (m_ret_8)) [(r0, 5, 1, .ref names_7), (r0, 5, 0, .ref variables_4)] [] [] H_8 locs_8 := (hh_6.callG hb_81 hb_82 hb_83 hb_84 hb_85 hS_8 rfl (L1 := [(r0, 5, 1, .ref names_7), (r0, 5, 0, .ref variables_4)]) [0, 1] rfl rfl (M1 := []) [] rfl rfl (I1 := []) [] rfl rfl).more hb_86
  have hNn_8 : (jNk [0, 1, 2, 3, 4, 6, 7, 8, 9, 10, 11, 12, 13, 14, 15, 16]) G0 G_8 := (jNk.rf).tr hN_8
  have hg_10 := hb_82 _ _ hg_r0
  have hg_11 := hb_82 _ _ hg_r2
  have hg_12 := hb_82 _ _ hg_r3
  have hg_13 := hb_82 _ _ hg_variables_4
  have hg_14 := hb_82 _ _ hg_names_7
  obtain ⟨hr_9, hr_9n, hr_9p⟩ := hr_9
  try simp only at hr_9p
  have hraw_15n := hbK_8.nr hraw_1.lt hnr_1
  have hraw_15 := hraw_1.kept (hbK_8.1 _ hraw_1.lt)
  obtain ⟨ret_16, rfl, hg_ret_16⟩ := hr_9
  have hsy_8 : s.heap.size ≤ ret_16 := Nat.le_trans hh_6.1.1 hr_9n.le
  refine lv_aload_n hx hb dX3_withHypothesis_16 rfl (lv_at hl 0 rfl) ?_
  obtain ⟨v_17, hv_17, hh_18⟩ := hh_8.pin (C := RX3) (T := TX3) (N := 4) hB5 rfl (by decide) hg_10 (i := 2) (by decide) rfl
  clear hh_8
  obtain ⟨hypotheses_19, khypotheses_19, rfl, hg_hypotheses_19, hhahypotheses_19, hhbhypotheses_19, hhchypotheses_19, hhdhypotheses_19, hhehypotheses_19⟩ := hv_17
  obtain rfl : khypotheses_19 = 313 := hhbhypotheses_19 (by omega)
  refine j7_read hx hb hown hK (C := RX3) (T := TX3) (N := 4) rfl hly_5_2 hlk_18 (hh_18.at 0 rfl) dX3_withHypothesis_17 ?_
  refine lv_aload_n hx hb dX3_withHypothesis_20 rfl (lv_at hl 2 rfl) ?_
  have hsz_20 := hh_18.2.2.2.2.2.1
  have htt_20 := hh_18.2.2.2.2.2.2.1
  refine W.room (fun hrc_20 hrs_20 => ?_)
  refine j_callx (A0 := jA base) (H0 := s.heap) (va_runS (As := [.ref hypotheses_19, .ref r2]) (rest := [.ref ret_16, .ref variables_4, .ref s.heap.size, .ref s.heap.size]) ⟨hx, hb, hml, hown, hts⟩ (uX9_longer_ l dC dI ca base B hB hAp hB280 hB313 G_8 H_8 hypotheses_19 r2 (n0 / 10) n2 LC LS) (va_cwS 2 hts (jgS (jWr_85 _ (List.mem_of_getElem? (i := 6) rfl)) (jWr_83 _ (List.mem_of_getElem? (i := 4) rfl)) (jWr_4 _ (List.mem_of_getElem? (i := 18) rfl)) (jWr_83 _ (List.mem_of_getElem? (i := 5) rfl))) rfl rfl rfl (by decide +kernel) ⟨by rw [← hR]; exact Nat.le_of_ble_eq_true rfl, by rw [← hR]; exact Nat.le_of_ble_eq_true rfl⟩) ⟨fun a U g mk q => by obtain ⟨q0, q1, q2, qK, q10, q11, q12, q13, q14⟩ := q; exact ⟨q0, q1, q2, jG.calling g mk a qK, (jK5.moved (Vm.Alike.refl U.vm) q10), q11, q12, q13, q14⟩, fun U hU hW => ⟨rfl, hU, hh_18.2.1, hG.step hW hU hh_18.1, jK5.moved hW.alike hK5, hg_hypotheses_19, hg_11, jP.nil, by first | omega | (refine ⟨?_, ?_⟩ <;> (first | omega | rfl | assumption | decide | exact Or.inl rfl | exact Or.inr rfl | (simp only; omega)))⟩⟩ rfl rfl hl.1 rfl (lv_room (Nat.le_of_ble_eq_true rfl)) dX3_withHypothesis_21 ⟨by rw [hRc]; omega, by rw [hRs]; omega⟩) hh_18.1 (fun q _ h => h) (fun q h => h) (fun r_21 u_20 t_20 H_20 locs_20 ht_20 hvm_20 hr_21 hb_20 hz_20 hk_20 hS_20 => ?_)
  rw [ht_20] at hb_20
  obtain ⟨m_ret_20, G_20⟩ := u_20
  simp only at hb_20
  obtain ⟨⟨hb_201, hb_202, hb_203, hb_204, hb_205, hb_206⟩, hN_20, hbK_20⟩ := hb_20
  have hN_20 : (jNk [0, 1, 2, 3, 4, 6, 7, 8, 9, 10, 11, 12, 13, 14, 15, 16]) G_8 G_20 := hN_20.sub (by decide)
  have hh_20 : jSt (dC, dI) B base G0 G_20 EX3_withHypothesis s.heap (((0 + 1) + (1)) + (1)) (((0 + 4) + (m_ret_8)) + (m_ret_20)) [(r0, 5, 2, .ref hypotheses_19), (r0, 5, 1, .ref names_7), (r0, 5, 0, .ref variables_4)] [] [] H_20 locs_20 := (hh_18.callG hb_201 hb_202 hb_203 hb_204 hb_205 hS_20 rfl (L1 := [(r0, 5, 2, .ref hypotheses_19), (r0, 5, 1, .ref names_7), (r0, 5, 0, .ref variables_4)]) [0, 1, 2] rfl rfl (M1 := []) [] rfl rfl (I1 := []) [] rfl rfl).more hb_206
  have hNn_20 : (jNk [0, 1, 2, 3, 4, 6, 7, 8, 9, 10, 11, 12, 13, 14, 15, 16]) G0 G_20 := (hNn_8).tr hN_20
  have hg_22 := hb_202 _ _ hg_10
  have hg_23 := hb_202 _ _ hg_11
  have hg_24 := hb_202 _ _ hg_12
  have hg_25 := hb_202 _ _ hg_ret_16
  have hg_26 := hb_202 _ _ hg_13
  have hg_27 := hb_202 _ _ hg_hypotheses_19
  have hg_28 := hb_202 _ _ hg_14
  obtain ⟨hr_21, hr_21n, hr_21p⟩ := hr_21
  try simp only at hr_21p
  have hraw_29n := hbK_20.nr hraw_15.lt hraw_15n
  have hraw_29 := hraw_15.kept (hbK_20.1 _ hraw_15.lt)
  obtain ⟨ret_30, rfl, hg_ret_30⟩ := hr_21
  have hsy_20 : s.heap.size ≤ ret_30 := Nat.le_trans hh_18.1.1 hr_21n.le
  refine lv_aload_n hx hb dX3_withHypothesis_24 rfl (lv_at hl 3 rfl) ?_
  have hsz_31 := hh_20.2.2.2.2.2.1
  have htt_31 := hh_20.2.2.2.2.2.2.1
  refine W.room (fun hrc_31 hrs_31 => ?_)
  refine va_callv (A0 := jA base) (H0 := s.heap) (va_runI (As := [.ref variables_4, .ref ret_16, .ref ret_30, .ref r3]) (rest := [.ref s.heap.size]) ⟨hx, hb, hml, hown, hts⟩ (uX3_init l dC dI ca base B hB hAp hB5 hB101 hB280 hB313 G_20 H_20 s.heap.size variables_4 ret_16 ret_30 r3 nvariables_4 m_ret_8 m_ret_20 n3 kh LC LS) (cwI 4 hts (jgW (jWr_83 _ (List.mem_of_getElem? (i := 8) rfl))) rfl rfl rfl (htw (.initialized RX3) (jWr_82 _ (List.mem_of_getElem? (i := 10) rfl))) (htw (.methodLink RX3 25 yX3_init) (jWr_85 _ (List.mem_of_getElem? (i := 7) rfl))) (htw (.instanceMethod yX3_init) (jWr_83 _ (List.mem_of_getElem? (i := 7) rfl))) rfl (by decide +kernel) ⟨by rw [← hR]; exact Nat.le_of_ble_eq_true rfl, by rw [← hR]; exact Nat.le_of_ble_eq_true rfl⟩) ⟨fun a U g mk q => by obtain ⟨q0, q1, q2, qK, q10, q11, q12, q13, q14, q15, q16, q17, q18⟩ := q; exact ⟨q0, q1, q2, jG.calling g mk a qK, q10, q11, q12, q13, q14, q15, q16, q17, q18⟩, fun U hU hW => ⟨rfl, hU, hh_20.2.1, hG.step hW hU hh_20.1, hg_26, hg_25, hg_ret_30, hg_24, hraw_29, hraw_29n, hbr_1, jP.nil, (by omega), (by omega), by first | omega | (refine ⟨?_, ?_, ?_, ?_, ?_, ?_⟩ <;> (first | omega | rfl | assumption | decide | exact Or.inl rfl | exact Or.inr rfl | (simp only; omega)))⟩⟩ rfl rfl hl.1 rfl (lv_room (Nat.le_of_ble_eq_true rfl)) dX3_withHypothesis_25 ⟨by rw [hRc]; omega, by rw [hRs]; omega⟩) hh_20.1 (fun q _ h => h) (fun q h => h) (fun u_31 t_31 H_31 locs_31 ht_31 hvm_31 hr_32 hb_31 hz_31 hk_31 hS_31 => ?_)
  rw [ht_31] at hb_31
  obtain ⟨G_31, rfl⟩ : ∃ z, z = u_31 := ⟨_, rfl⟩
  try simp only at hb_31
  obtain ⟨⟨hb_311, hb_312, hb_313, hb_314, hb_315, hb_316⟩, hN_31, hgc_31, hbX_31⟩ := hb_31
  have hh_31 : jSt (dC, dI) B base G0 G_31 EX3_withHypothesis s.heap ((((0 + 1) + (1)) + (1)) + (0)) ((((0 + 4) + (m_ret_8)) + (m_ret_20)) + (0)) [(r0, 5, 2, .ref hypotheses_19), (r0, 5, 1, .ref names_7), (r0, 5, 0, .ref variables_4)] [] [] H_31 locs_31 := (hh_20.callG hb_311 hb_312 hb_313 hb_314 hb_315 hS_31 rfl (L1 := [(r0, 5, 2, .ref hypotheses_19), (r0, 5, 1, .ref names_7), (r0, 5, 0, .ref variables_4)]) [0, 1, 2] rfl rfl (M1 := []) [] rfl rfl (I1 := []) [] rfl rfl).more hb_316
  have hNn_31 : (jNk [0, 1, 2, 3, 4, 6, 7, 8, 9, 10, 11, 12, 13, 14, 15, 16]) G0 G_31 := (hNn_20).tr hN_31
  have hg_33 := hb_312 _ _ hg_22
  have hg_34 := hb_312 _ _ hg_23
  have hg_35 := hb_312 _ _ hg_24
  have hg_36 := hb_312 _ _ hg_27
  have hg_37 := hb_312 _ _ hg_28
  have hg_38 := hb_312 _ _ hg_26
  try simp only at hr_32
  have hsz_39 := hh_31.2.2.2.2.2.1
  have htt_39 := hh_31.2.2.2.2.2.2.1
  refine W.room (fun hrc_39 hrs_39 => ?_)
  refine W.widen (k := LC - s.heap.size) (n := LS - jTot s.heap) (by omega) (by omega) ?_
  rw [hQ]
  exact W.aret (v := .ref s.heap.size) hx hb hr (Or.inl ⟨_, rfl⟩) (Or.inr ⟨_, rfl⟩) (fun t ht hW => ⟨⟨.ref s.heap.size, (kh, G_31), rfl, ⟨⟨_, rfl, hgc_31⟩, ⟨_, rfl, hsy_1⟩, by (try dsimp only); exact ⟨(by first | omega | rfl | assumption | fail), (by first | omega | rfl | assumption | fail)⟩⟩, ⟨hh_31.ra (by first | omega | (simp only; omega)) (by first | omega | (simp only; omega)) (M1 := []) [] rfl ht, hNn_31⟩⟩, by rw [ht]; try exact hh_31.1.1, fun q h9 hq => by rw [ht]; try exact hh_31.1.2.1 q h9 hq⟩) hh_31.1.2.2 dX3_withHypothesis_28
