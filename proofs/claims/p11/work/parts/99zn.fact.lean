theorem dX9_addFact_0 : decode cX9_addFact 0 = .ok (.aload_n 0, 1) := by decide +kernel
theorem dX9_addFact_1 : decode cX9_addFact 1 = .ok (.aload_n 0, 1) := by decide +kernel
theorem dX9_addFact_2 : decode cX9_addFact 2 = .ok (.getfield 15, 3) := by decide +kernel
theorem dX9_addFact_5 : decode cX9_addFact 5 = .ok (.iload_n 1, 1) := by decide +kernel
theorem dX9_addFact_6 : decode cX9_addFact 6 = .ok (.invokestatic 49, 3) := by decide +kernel
theorem dX9_addFact_9 : decode cX9_addFact 9 = .ok (.putfield 15, 3) := by decide +kernel
theorem dX9_addFact_12 : decode cX9_addFact 12 = .ok (.aload_n 0, 1) := by decide +kernel
theorem dX9_addFact_13 : decode cX9_addFact 13 = .ok (.aload_n 0, 1) := by decide +kernel
theorem dX9_addFact_14 : decode cX9_addFact 14 = .ok (.getfield 19, 3) := by decide +kernel
theorem dX9_addFact_17 : decode cX9_addFact 17 = .ok (.aload_n 2, 1) := by decide +kernel
theorem dX9_addFact_18 : decode cX9_addFact 18 = .ok (.invokestatic 52, 3) := by decide +kernel
theorem dX9_addFact_21 : decode cX9_addFact 21 = .ok (.putfield 19, 3) := by decide +kernel
theorem dX9_addFact_24 : decode cX9_addFact 24 = .ok (.return_, 1) := by decide +kernel
def EX9_addFact : List (Nat × Nat) := [(11, 4), (11, 5), (101, 0)]
set_option maxHeartbeats 4000000 in
set_option maxRecDepth 20000 in
theorem uX9_addFact (l : Launch) (dC : Nat → ClassId) (dI : Nat → Nat → Nat) (ca : Nat → ClassId) (base : Nat) (B : jF) (hB : jBok B) (hAp : jAp (dC, dI)) (hB11 : ∀ n G a H, B 11 n G a H ↔ jOb (dC, dI) 11 9 (F11 n G) a H) (hB101 : ∀ n G a H, B 101 n G a H ↔ jAr (dC, dI) (ca 1) (fun j z => True) n a H) (hB280 : ∀ n G a H, B 280 n G a H ↔ jAr (dC, dI) (ca 1) (fun j z => -1 ≤ z.toInt) n a H) (hB313 : ∀ n G a H, B 313 n G a H ↔ jAq (dC, dI) (ca 8) (jQk 280 80) n G a H) (G0 : jT) (H0 : Heap) (r0 : Nat) (a1 : Int32) (r2 : Nat) (n2 : Nat) (fa : Nat) (n_fa : Nat) (fc : Nat) (n_fc : Nat) (LC LS : Nat) : Met l yX9_addFact (jw yX9_addFact cX9_addFact 3 none) ({ frames := 3, cells := LC - H0.size, slots := LS - jTot H0, locals := 105 }) (va_Pc [.ref r0, .int a1, .ref r2] (fun U => U.heap = H0 ∧ jX B base G0 [] H0 ∧ jG dC dI ca base U ∧ jK5 dC dI ca U ∧ G0 r0 = some (11, 0) ∧ G0 r2 = some (280, n2) ∧ G0 fa = some (101, n_fa) ∧ G0 fc = some (313, n_fc) ∧ jP (dC, dI) G0 H0 [(r0, 11, 4, .ref fa), (r0, 11, 5, .ref fc)] ∧ H0.size + 2 ≤ LC ∧ jTot H0 + 60 ≤ LS ∧ n_fa ≤ 15 ∧ n_fc ≤ 15 ∧ n2 ≤ 80)) (va_Qv (S := Nat × Nat × Nat × Nat × jT) (fun u => u.2.1 = n_fa + 1 ∧ u.2.2.2.1 = n_fc + 1) (fun u t => jRa (dC, dI) B base G0 u.2.2.2.2 EX9_addFact H0 (2) (40) [(r0, 11, 4, .ref u.1), (r0, 11, 5, .ref u.2.2.1)] t.heap ∧ u.2.2.2.2 u.1 = some (101, u.2.1) ∧ u.2.2.2.2 u.2.2.1 = some (313, u.2.2.2.1) ∧ (jNk [0, 1, 2, 3, 4, 5, 6, 7, 8, 9, 10, 11, 12, 13, 14, 15, 16]) G0 u.2.2.2.2 ∧ jOw (dC, dI) G0 11 r0 H0 t.heap) (jA base)) (LC - H0.size) (LS - jTot H0) (jA base) := by
  refine Met.ofW (cc := cX9_addFact) (maxL := 3) (ret := none) (by decide) rfl ?_
  intro p e s m args below meth c s₁ Bd hml hv
  obtain ⟨rfl, hH0, hX, hG, hK5, hg_r0, hg_r2, hg_fa, hg_fc, hP0, hLC0, hLS0, hp0, hp1, hp2⟩ := hv
  have hK := hG.1
  have hx := Bd.exec
  have hb := Bd.bytes
  have hr := Bd.returns
  have hts := atoms_spec (ws := (jw yX9_addFact cX9_addFact 3 none)) Bd.pre
  have htw : ∀ w ∈ jWl, w.before _ s = true := fun w h => hts w (List.mem_cons_of_mem _ h)
  have hown : s.vm.findClass RX9 = some m.cls := findClass_of_methodNamed Bd.named
  have hlocks := Bd.notSynchronized
  obtain ⟨Q, hQ⟩ : ∃ Q, Q = MQ below (va_Qv (S := Nat × Nat × Nat × Nat × jT) (fun u => u.2.1 = n_fa + 1 ∧ u.2.2.2.1 = n_fc + 1) (fun u t => jRa (dC, dI) B base G0 u.2.2.2.2 EX9_addFact H0 (2) (40) [(r0, 11, 4, .ref u.1), (r0, 11, 5, .ref u.2.2.1)] t.heap ∧ u.2.2.2.2 u.1 = some (101, u.2.1) ∧ u.2.2.2.2 u.2.2.1 = some (313, u.2.2.2.1) ∧ (jNk [0, 1, 2, 3, 4, 5, 6, 7, 8, 9, 10, 11, 12, 13, 14, 15, 16]) G0 u.2.2.2.2 ∧ jOw (dC, dI) G0 11 r0 H0 t.heap) (jA base)) ([.ref r0, .int a1, .ref r2] : List Value).toArray s (LC - H0.size) (LS - jTot H0) (jA base) := ⟨_, rfl⟩
  rw [← hQ]
  have hl := lv_entry ([.ref r0, .int a1, .ref r2]) (n := 3) (Nat.le_of_ble_eq_true rfl)
  rw [lg_entry_eq]
  generalize (lg_sl ([.ref r0, .int a1, .ref r2]) ++ List.replicate (3 - (lg_sl ([.ref r0, .int a1, .ref r2])).length) Slot.unset).toArray = ls at hl ⊢
  have hl : lv_has ls 3 [(0, .ref r0), (1, .int a1), (2, .ref r2)] := hl
  generalize hR : (headSpec (jw yX9_addFact cX9_addFact 3 none) ({ frames := 3, cells := LC - H0.size, slots := LS - jTot H0, locals := 105 })).room = R
  subst hH0
  have hh : jSt (dC, dI) B base G0 G0 EX9_addFact s.heap 0 0 [(r0, 11, 4, .ref fa), (r0, 11, 5, .ref fc)] [] [] s.heap [] := jSt.start hX hP0 jMc.nil jIs.nil
  clear hX hP0
  have hk0 : (0 : Int32).toInt = 0 := by decide
  have hk1 : (1 : Int32).toInt = 1 := by decide
  have hly_11_4 := htw (u_lay RX9 TX9 4) (jWc_wsX90 _ (u_in_lay (by decide)))
  have hly_11_5 := htw (u_lay RX9 TX9 5) (jWc_wsX90 _ (u_in_lay (by decide)))
  have hlk_15 := (htw (.fieldLink RX9 15 "ProofServer$State" "factNames" "[I") (jWr_8 _ (List.mem_of_getElem? (i := 18) rfl)))
  have hlk_19 := (htw (.fieldLink RX9 19 "ProofServer$State" "facts" "[[I") (jWr_8 _ (List.mem_of_getElem? (i := 20) rfl)))
  have hrg_a1 := jb_rng a1
  have hbs : base ≤ s.heap.size := Nat.le_of_lt (Nat.lt_of_le_of_lt (hh.ab hg_r0).1 (hh.ab hg_r0).2)
  have hRc : R.cells = LC - s.heap.size := by rw [← hR]; rfl
  have hRs : R.slots = LS - jTot s.heap := by rw [← hR]; rfl
  have hh_1 := hh.addI (jOw.ie (dC := dC) (dI := dI) (G0 := G0) (k := 11) (r := r0) (H0 := s.heap) (F := [(11, 0), (11, 1), (11, 2), (11, 3), (11, 4), (11, 5), (11, 6), (11, 7), (11, 8)]) (C := RX9) (T := TX9) (N := 9) rfl (by decide) hh.2.2.2.2.1 (jOw.rf))
  clear hh
  refine lv_aload_n hx hb dX9_addFact_0 rfl (lv_at hl 0 rfl) ?_
  refine lv_aload_n hx hb dX9_addFact_1 rfl (lv_at hl 0 rfl) ?_
  refine j7_read hx hb hown hK (C := RX9) (T := TX9) (N := 9) rfl hly_11_4 hlk_15 (hh_1.at 0 rfl) dX9_addFact_2 ?_
  refine lv_iload_n hx hb dX9_addFact_5 rfl (lv_at hl 1 rfl) ?_
  have hsz_2 := hh_1.2.2.2.2.2.1
  have htt_2 := hh_1.2.2.2.2.2.2.1
  refine W.room (fun hrc_2 hrs_2 => ?_)
  refine j_callx (A0 := jA base) (H0 := s.heap) (va_runS (As := [.ref fa, .int a1]) (rest := [.ref r0]) ⟨hx, hb, hml, hown, hts⟩ (uX9_longer l dC dI ca base B hB hAp hB101 G0 s.heap fa a1 n_fa LC LS) (va_cwS 2 hts (jgS (jWr_83 _ (List.mem_of_getElem? (i := 2) rfl)) (jWr_81 _ (List.mem_of_getElem? (i := 20) rfl)) (jWr_4 _ (List.mem_of_getElem? (i := 18) rfl)) (jWr_81 _ (List.mem_of_getElem? (i := 21) rfl))) rfl rfl rfl (by decide +kernel) ⟨by rw [← hR]; exact Nat.le_of_ble_eq_true rfl, by rw [← hR]; exact Nat.le_of_ble_eq_true rfl⟩) ⟨fun a U g mk q => by obtain ⟨q0, q1, q2, qK, q10, q11, q12⟩ := q; exact ⟨q0, q1, q2, jG.calling g mk a qK, q10, q11, q12⟩, fun U hU hW => ⟨rfl, hU, hh_1.2.1, hG.step hW hU hh_1.1, hg_fa, jP.nil, by first | omega | rfl | assumption | decide | exact Or.inl rfl | exact Or.inr rfl | (simp only; omega)⟩⟩ rfl rfl hl.1 rfl (lv_room (Nat.le_of_ble_eq_true rfl)) dX9_addFact_6 ⟨by rw [hRc]; omega, by rw [hRs]; omega⟩) hh_1.1 (fun q _ h => h) (fun q h => h) (fun r_3 u_2 t_2 H_2 locs_2 ht_2 hvm_2 hr_3 hb_2 hz_2 hk_2 hS_2 => ?_)
  rw [ht_2] at hb_2
  obtain ⟨m_ret_2, G_2⟩ := u_2
  simp only at hb_2
  obtain ⟨⟨hb_21, hb_22, hb_23, hb_24, hb_25, hb_26⟩, hN_2, hbK_2⟩ := hb_2
  have hh_2 : jSt (dC, dI) B base G0 G_2 EX9_addFact s.heap (0 + (1)) (0 + (m_ret_2)) [(r0, 11, 4, .ref fa), (r0, 11, 5, .ref fc)] [] [([(11, 0), (11, 1), (11, 2), (11, 3), (11, 4), (11, 5), (11, 6), (11, 7), (11, 8)], jOw (dC, dI) G0 11 r0 s.heap)] H_2 locs_2 := (hh_1.callG hb_21 hb_22 hb_23 hb_24 hb_25 hS_2 rfl (L1 := [(r0, 11, 4, .ref fa), (r0, 11, 5, .ref fc)]) [0, 1] rfl rfl (M1 := []) [] rfl rfl (I1 := [([(11, 0), (11, 1), (11, 2), (11, 3), (11, 4), (11, 5), (11, 6), (11, 7), (11, 8)], jOw (dC, dI) G0 11 r0 s.heap)]) [0] rfl rfl).more hb_26
  have hNn_2 : (jNk [0, 1, 2, 3, 4, 5, 6, 7, 8, 9, 10, 11, 12, 13, 14, 15, 16]) G0 G_2 := (jNk.rf).tr hN_2
  have hg_4 := hb_22 _ _ hg_r0
  have hg_5 := hb_22 _ _ hg_r2
  have hg_6 := hb_22 _ _ hg_fa
  have hg_7 := hb_22 _ _ hg_fc
  obtain ⟨hr_3, hr_3n, hr_3p⟩ := hr_3
  try simp only at hr_3p
  obtain ⟨ret_8, rfl, hg_ret_8⟩ := hr_3
  have hsy_2 : s.heap.size ≤ ret_8 := Nat.le_trans hh_1.1.1 hr_3n.le
  have hd_10 := hh_2.iv 0 rfl
  have hh_11 := hh_2.sub (L1 := [(r0, 11, 4, .ref fa), (r0, 11, 5, .ref fc)]) [0, 1] rfl (M1 := []) [] rfl (I1 := []) [] rfl
  clear hh_2
  refine j7_putX hx hb hown hK hh_11 hB hAp hB11 (C := RX9) (T := TX9) (N := 9) rfl (by decide) hg_4 (i := 4) (by decide) hly_11_4 rfl hlk_15 rfl (ty := (.array .int)) (v := .ref ret_8) (by decide +kernel) rfl rfl (⟨_, _, rfl, hg_ret_8, by omega⟩) rfl (L1 := [(r0, 11, 5, .ref fc)]) [1] rfl rfl rfl dX9_addFact_9 (fun H_9 locs_9 hr_9 hh_9 => ?_)
  clear hh_11
  have hd_10n := jOw.put hd_10 hr_9
  have hh_12 := hh_9.addI (jOw.ie (dC := dC) (dI := dI) (G0 := G0) (k := 11) (r := r0) (H0 := s.heap) (F := [(11, 0), (11, 1), (11, 2), (11, 3), (11, 4), (11, 5), (11, 6), (11, 7), (11, 8)]) (C := RX9) (T := TX9) (N := 9) rfl (by decide) hh_9.2.2.2.2.1 (hd_10n))
  clear hh_9
  clear hd_10 hd_10n hr_9
  refine lv_aload_n hx hb dX9_addFact_12 rfl (lv_at hl 0 rfl) ?_
  refine lv_aload_n hx hb dX9_addFact_13 rfl (lv_at hl 0 rfl) ?_
  refine j7_read hx hb hown hK (C := RX9) (T := TX9) (N := 9) rfl hly_11_5 hlk_19 (hh_12.at 1 rfl) dX9_addFact_14 ?_
  refine lv_aload_n hx hb dX9_addFact_17 rfl (lv_at hl 2 rfl) ?_
  have hsz_13 := hh_12.2.2.2.2.2.1
  have htt_13 := hh_12.2.2.2.2.2.2.1
  refine W.room (fun hrc_13 hrs_13 => ?_)
  refine j_callx (A0 := jA base) (H0 := s.heap) (va_runS (As := [.ref fc, .ref r2]) (rest := [.ref r0]) ⟨hx, hb, hml, hown, hts⟩ (uX9_longer_ l dC dI ca base B hB hAp hB280 hB313 G_2 H_9 fc r2 n_fc n2 LC LS) (va_cwS 2 hts (jgS (jWr_83 _ (List.mem_of_getElem? (i := 3) rfl)) (jWr_83 _ (List.mem_of_getElem? (i := 4) rfl)) (jWr_4 _ (List.mem_of_getElem? (i := 18) rfl)) (jWr_83 _ (List.mem_of_getElem? (i := 5) rfl))) rfl rfl rfl (by decide +kernel) ⟨by rw [← hR]; exact Nat.le_of_ble_eq_true rfl, by rw [← hR]; exact Nat.le_of_ble_eq_true rfl⟩) ⟨fun a U g mk q => by obtain ⟨q0, q1, q2, qK, q10, q11, q12, q13, q14⟩ := q; exact ⟨q0, q1, q2, jG.calling g mk a qK, (jK5.moved (Vm.Alike.refl U.vm) q10), q11, q12, q13, q14⟩, fun U hU hW => ⟨rfl, hU, hh_12.2.1, hG.step hW hU hh_12.1, jK5.moved hW.alike hK5, hg_7, hg_5, jP.nil, by first | omega | (refine ⟨?_, ?_⟩ <;> (first | omega | rfl | assumption | decide | exact Or.inl rfl | exact Or.inr rfl | (simp only; omega)))⟩⟩ rfl rfl hl.1 rfl (lv_room (Nat.le_of_ble_eq_true rfl)) dX9_addFact_18 ⟨by rw [hRc]; omega, by rw [hRs]; omega⟩) hh_12.1 (fun q _ h => h) (fun q h => h) (fun r_14 u_13 t_13 H_13 locs_13 ht_13 hvm_13 hr_14 hb_13 hz_13 hk_13 hS_13 => ?_)
  rw [ht_13] at hb_13
  obtain ⟨m_ret_13, G_13⟩ := u_13
  simp only at hb_13
  obtain ⟨⟨hb_131, hb_132, hb_133, hb_134, hb_135, hb_136⟩, hN_13, hbK_13⟩ := hb_13
  have hh_13 : jSt (dC, dI) B base G0 G_13 EX9_addFact s.heap ((0 + (1)) + (1)) ((0 + (m_ret_2)) + (m_ret_13)) [(r0, 11, 4, .ref ret_8), (r0, 11, 5, .ref fc)] [] [([(11, 0), (11, 1), (11, 2), (11, 3), (11, 4), (11, 5), (11, 6), (11, 7), (11, 8)], jOw (dC, dI) G0 11 r0 s.heap)] H_13 locs_13 := (hh_12.callG hb_131 hb_132 hb_133 hb_134 hb_135 hS_13 rfl (L1 := [(r0, 11, 4, .ref ret_8), (r0, 11, 5, .ref fc)]) [0, 1] rfl rfl (M1 := []) [] rfl rfl (I1 := [([(11, 0), (11, 1), (11, 2), (11, 3), (11, 4), (11, 5), (11, 6), (11, 7), (11, 8)], jOw (dC, dI) G0 11 r0 s.heap)]) [0] rfl rfl).more hb_136
  have hNn_13 : (jNk [0, 1, 2, 3, 4, 5, 6, 7, 8, 9, 10, 11, 12, 13, 14, 15, 16]) G0 G_13 := (hNn_2).tr hN_13
  have hg_15 := hb_132 _ _ hg_4
  have hg_16 := hb_132 _ _ hg_5
  have hg_17 := hb_132 _ _ hg_ret_8
  have hg_18 := hb_132 _ _ hg_7
  obtain ⟨hr_14, hr_14n, hr_14p⟩ := hr_14
  try simp only at hr_14p
  obtain ⟨ret_19, rfl, hg_ret_19⟩ := hr_14
  have hsy_13 : s.heap.size ≤ ret_19 := Nat.le_trans hh_12.1.1 hr_14n.le
  have hd_21 := hh_13.iv 0 rfl
  have hh_22 := hh_13.sub (L1 := [(r0, 11, 4, .ref ret_8), (r0, 11, 5, .ref fc)]) [0, 1] rfl (M1 := []) [] rfl (I1 := []) [] rfl
  clear hh_13
  refine j7_putX hx hb hown hK hh_22 hB hAp hB11 (C := RX9) (T := TX9) (N := 9) rfl (by decide) hg_15 (i := 5) (by decide) hly_11_5 rfl hlk_19 rfl (ty := (.array (.array .int))) (v := .ref ret_19) (by decide +kernel) rfl rfl (⟨_, _, rfl, hg_ret_19, by omega⟩) rfl (L1 := [(r0, 11, 4, .ref ret_8)]) [0] rfl rfl rfl dX9_addFact_21 (fun H_20 locs_20 hr_20 hh_20 => ?_)
  clear hh_22
  have hd_21n := jOw.put hd_21 hr_20
  have hh_23 := hh_20.addI (jOw.ie (dC := dC) (dI := dI) (G0 := G0) (k := 11) (r := r0) (H0 := s.heap) (F := [(11, 0), (11, 1), (11, 2), (11, 3), (11, 4), (11, 5), (11, 6), (11, 7), (11, 8)]) (C := RX9) (T := TX9) (N := 9) rfl (by decide) hh_20.2.2.2.2.1 (hd_21n))
  clear hh_20
  clear hd_21 hd_21n hr_20
  have hsz_24 := hh_23.2.2.2.2.2.1
  have htt_24 := hh_23.2.2.2.2.2.2.1
  refine W.room (fun hrc_24 hrs_24 => ?_)
  refine W.widen (k := LC - s.heap.size) (n := LS - jTot s.heap) (by omega) (by omega) ?_
  rw [hQ]
  exact W.vret hx hb hr (fun t ht hW => ⟨⟨(ret_8, m_ret_2, ret_19, m_ret_13, G_13), rfl, by (try dsimp only); exact ⟨(by first | omega | rfl | assumption | fail), (by first | omega | rfl | assumption | fail)⟩, ⟨hh_23.ra (by first | omega | (simp only; omega)) (by first | omega | (simp only; omega)) (M1 := [(r0, 11, 4, .ref ret_8), (r0, 11, 5, .ref ret_19)]) [1, 0] rfl ht, hg_17, hg_ret_19, hNn_13, by rw [ht]; exact hh_23.iv 0 rfl⟩⟩, by rw [ht]; try exact hh_23.1.1, fun q h9 hq => by rw [ht]; try exact hh_23.1.2.1 q h9 hq⟩) hh_23.1.2.2 dX9_addFact_24
