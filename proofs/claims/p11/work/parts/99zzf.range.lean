def EJ7_copyOfRangeInt_feeccU : List (Nat × Nat) := [(101, 0)]
def EJ7_copyOfRange_feeccU : List (Nat × Nat) := [(101, 0)]
set_option maxHeartbeats 4000000 in
set_option maxRecDepth 20000 in
theorem uJ7_copyOfRangeInt_feeccU (l : Launch) (dC : Nat → ClassId) (dI : Nat → Nat → Nat) (ca : Nat → ClassId) (base : Nat) (B : jF) (hB : jBok B) (hAp : jAp (dC, dI)) (hB101 : ∀ n G a H, B 101 n G a H ↔ jAr (dC, dI) (ca 1) (fun j z => True) n a H) (G0 : jT) (H0 : Heap) (r0 : Nat) (a1 : Int32) (a2 : Int32) (n0 : Nat) (LC LS : Nat) : Met l yJ7_copyOfRangeInt_feecc (jw yJ7_copyOfRangeInt_feecc cJ7_copyOfRangeInt_feecc 5 (some (.array .int))) ({ frames := 1, cells := LC - H0.size, slots := LS - jTot H0, locals := 61 }) (va_Pc [.ref r0, .int a1, .int a2] (fun U => U.heap = H0 ∧ jX B base G0 [] H0 ∧ jG dC dI ca base U ∧ G0 r0 = some (101, n0) ∧ jP (dC, dI) G0 H0 [] ∧ H0.size + 1 ≤ LC ∧ jTot H0 + (a2.toInt - a1.toInt).toNat ≤ LS ∧ 0 ≤ a1.toInt ∧ a1.toInt ≤ a2.toInt ∧ a2.toInt ≤ n0 ∧ n0 ≤ 3000)) (jQx (S := Nat × jT) (fun v u => jRf u.2 101 u.1 v ∧ jNwv v H0 ∧ u.1 = a2.toInt - a1.toInt) (fun u t => jRa (dC, dI) B base G0 u.2 EJ7_copyOfRangeInt_feeccU H0 (1) (u.1) [] t.heap ∧ (jNk [0, 1, 2, 3, 4, 5, 6, 7, 8, 9, 10, 11, 12, 13, 14, 15, 16]) G0 u.2 ∧ jKe G0 u.2 H0 t.heap) (jA base)) (LC - H0.size) (LS - jTot H0) (jA base) := by
  refine Met.ofW (cc := cJ7_copyOfRangeInt_feecc) (maxL := 5) (ret := (some (.array .int))) (by decide) rfl ?_
  intro p e s m args below meth c s₁ Bd hml hv
  obtain ⟨rfl, hH0, hX, hG, hg_r0, hP0, hLC0, hLS0, hp0, hp1, hp2, hp3⟩ := hv
  have hK := hG.1
  have hx := Bd.exec
  have hb := Bd.bytes
  have hr := Bd.returns
  have hts := atoms_spec (ws := (jw yJ7_copyOfRangeInt_feecc cJ7_copyOfRangeInt_feecc 5 (some (.array .int)))) Bd.pre
  have htw : ∀ w ∈ jWl, w.before _ s = true := fun w h => hts w (List.mem_cons_of_mem _ h)
  have hown : s.vm.findClass RJ7 = some m.cls := findClass_of_methodNamed Bd.named
  have hlocks := Bd.notSynchronized
  obtain ⟨Q, hQ⟩ : ∃ Q, Q = MQ below (jQx (S := Nat × jT) (fun v u => jRf u.2 101 u.1 v ∧ jNwv v H0 ∧ u.1 = a2.toInt - a1.toInt) (fun u t => jRa (dC, dI) B base G0 u.2 EJ7_copyOfRangeInt_feeccU H0 (1) (u.1) [] t.heap ∧ (jNk [0, 1, 2, 3, 4, 5, 6, 7, 8, 9, 10, 11, 12, 13, 14, 15, 16]) G0 u.2 ∧ jKe G0 u.2 H0 t.heap) (jA base)) ([.ref r0, .int a1, .int a2] : List Value).toArray s (LC - H0.size) (LS - jTot H0) (jA base) := ⟨_, rfl⟩
  rw [← hQ]
  have hl := lv_entry ([.ref r0, .int a1, .int a2]) (n := 5) (Nat.le_of_ble_eq_true rfl)
  rw [lg_entry_eq]
  generalize (lg_sl ([.ref r0, .int a1, .int a2]) ++ List.replicate (5 - (lg_sl ([.ref r0, .int a1, .int a2])).length) Slot.unset).toArray = ls at hl ⊢
  have hl : lv_has ls 5 [(0, .ref r0), (1, .int a1), (2, .int a2)] := hl
  generalize hR : (headSpec (jw yJ7_copyOfRangeInt_feecc cJ7_copyOfRangeInt_feecc 5 (some (.array .int))) ({ frames := 1, cells := LC - H0.size, slots := LS - jTot H0, locals := 61 })).room = R
  subst hH0
  have hh : jSt (dC, dI) B base G0 G0 EJ7_copyOfRangeInt_feeccU s.heap 0 0 [] [] [] s.heap [] := jSt.start hX hP0 jMc.nil jIs.nil
  clear hX hP0
  have hk0 : (0 : Int32).toInt = 0 := by decide
  have hk1 : (1 : Int32).toInt = 1 := by decide
  have hrg_a1 := jb_rng a1
  have hrg_a2 := jb_rng a2
  have hbs : base ≤ s.heap.size := Nat.le_of_lt (Nat.lt_of_le_of_lt (hh.ab hg_r0).1 (hh.ab hg_r0).2)
  have hRc : R.cells = LC - s.heap.size := by rw [← hR]; rfl
  have hRs : R.slots = LS - jTot s.heap := by rw [← hR]; rfl
  have hkp : jKe G0 G0 s.heap s.heap := jKe.rf
  refine lv_iload_n hx hb dJ7_copyOfRangeInt_feecc_0 rfl (lv_at hl 1 rfl) ?_
  refine lv_iload_n hx hb dJ7_copyOfRangeInt_feecc_1 rfl (lv_at hl 2 rfl) ?_
  have hsz_1 := hh.2.2.2.2.2.1
  have htt_1 := hh.2.2.2.2.2.2.1
  refine W.room (fun hrc_1 hrs_1 => ?_)
  refine va_callv (A0 := jA base) (H0 := s.heap) (va_runS (As := [.int a1, .int a2]) (rest := []) ⟨hx, hb, hml, hown, hts⟩ (uJ7_checkLength_df160 l dC dI ca base B hB hAp G0 s.heap a1 a2) (va_cwS 2 hts (jgS (jWr_78 _ (List.mem_of_getElem? (i := 7) rfl)) (jWr_78 _ (List.mem_of_getElem? (i := 8) rfl)) (jWr_16 _ (List.mem_of_getElem? (i := 7) rfl)) (jWr_78 _ (List.mem_of_getElem? (i := 9) rfl))) rfl rfl rfl (by decide +kernel) ⟨by rw [← hR]; exact Nat.le_of_ble_eq_true rfl, by rw [← hR]; exact Nat.le_of_ble_eq_true rfl⟩) ⟨fun a U g mk q => by obtain ⟨q0, q1, q2, qK, q10, q11⟩ := q; exact ⟨q0, q1, q2, jG.calling g mk a qK, q10, q11⟩, fun U hU hW => ⟨rfl, hU, hh.2.1, hG.step hW hU hh.1, jP.nil, by first | omega | rfl | assumption | decide | exact Or.inl rfl | exact Or.inr rfl | (simp only; omega)⟩⟩ rfl rfl hl.1 rfl (lv_room (Nat.le_of_ble_eq_true rfl)) dJ7_copyOfRangeInt_feecc_2 ⟨by rw [hRc]; show _ + 0 ≤ _; omega, by rw [hRs]; show _ + 0 ≤ _; omega⟩) hh.1 (fun q _ h => h) (fun q h => h) (fun u_1 t_1 H_1 locs_1 ht_1 hvm_1 hr_2 hb_1 hz_1 hk_1 hS_1 => ?_)
  rw [ht_1] at hb_1
  obtain ⟨hb_1, hbF_1⟩ := hb_1
  obtain ⟨hb_11, hb_12, hb_13, hb_14, hb_15⟩ := hb_1
  have hh_1 : jSt (dC, dI) B base G0 G0 EJ7_copyOfRangeInt_feeccU s.heap 0 0 [] [] [] H_1 locs_1 := ((hh.call hb_11 hb_12 hb_13 hb_14 hS_1 rfl (L1 := []) [] rfl rfl (M1 := []) [] rfl rfl (I1 := []) [] rfl rfl).more hb_15)
  clear hh ht_1 hvm_1 hz_1 hk_1 hS_1 hb_11 hb_12 hb_13 hb_14 hb_15
  have hkp_3 := hkp.fl hbF_1 (by intro q h9; simp at h9)
  refine lv_iload_n hx hb dJ7_copyOfRangeInt_feecc_5 rfl (lv_at hl 2 rfl) ?_
  refine lv_iload_n hx hb dJ7_copyOfRangeInt_feecc_6 rfl (lv_at hl 1 rfl) ?_
  refine lv_isub hx hb dJ7_copyOfRangeInt_feecc_7 ?_
  refine lv_topi (fun z_4 ez_4 => ?_)
  have hz_4 : z_4.toInt = a2.toInt - a1.toInt := by rw [ez_4]; exact jb_isub2 (rfl) (rfl) (by omega)
  refine lv_istore_n (lv' := [(3, .int z_4), (0, .ref r0), (1, .int a1), (2, .int a2)]) hx hb dJ7_copyOfRangeInt_feecc_8 rfl hl (by decide) rfl (fun ls hl => ?_)
  refine lv_iload_n hx hb dJ7_copyOfRangeInt_feecc_9 rfl (lv_at hl 0 rfl) ?_
  have hsz_5 := hh_1.2.2.2.2.2.1
  have htt_5 := hh_1.2.2.2.2.2.2.1
  refine j7_newiK hx hb hK hh_1 hB (atype := .int) (ty := .int) (htw (.arrayClass .int) (jWr_3 _ (List.mem_of_getElem? (i := 20) rfl))) rfl rfl (fun _ h => h) hB101 1 rfl (by decide) (by decide) hbs (x := z_4.toInt) rfl (by omega) (fun j => by first | trivial | decide | rfl | exact Or.inl rfl | (refine ⟨?_, ?_⟩ <;> decide)) (by rw [hRc]; omega) (by rw [hRs]; omega) dJ7_copyOfRangeInt_feecc_10 (fun H_5 hfr_5 hh_5 => ?_)
  have hh_5 : jSt (dC, dI) B base G0 (va_up G0 H_1.size (some (101, (z_4.toInt).toNat))) EJ7_copyOfRangeInt_feeccU s.heap (0 + 1) (0 + (z_4.toInt).toNat) [] [] [] H_5 locs_1 := hh_5
  have hN_5 : (jNk [0, 1, 2, 3, 4, 5, 6, 7, 8, 9, 10, 11, 12, 13, 14, 15, 16]) G0 (va_up G0 H_1.size (some (101, (z_4.toInt).toNat))) := jNk.new (by decide)
  have hgn_5 : (va_up G0 H_1.size (some (101, (z_4.toInt).toNat))) H_1.size = some (101, (z_4.toInt).toNat) := jUp_self
  have hle_5 : jLe G0 (va_up G0 H_1.size (some (101, (z_4.toInt).toNat))) := jLe.new hh_1.2.1.fresh
  have hke_5 : jKe G0 (va_up G0 H_1.size (some (101, (z_4.toInt).toNat))) H_1 H_5 := jKe.new hfr_5
  have hsy_5 : s.heap.size ≤ H_1.size := hh_1.1.1
  generalize (va_up G0 H_1.size (some (101, (z_4.toInt).toNat))) = G_5 at hN_5 hgn_5 hle_5 hke_5 hh_5
  generalize hnc_5 : (z_4.toInt).toNat = nc_5 at hgn_5 hh_5 ⊢
  clear hh_1
  have hNn_5 : (jNk [0, 1, 2, 3, 4, 5, 6, 7, 8, 9, 10, 11, 12, 13, 14, 15, 16]) G0 G_5 := (jNk.rf).tr hN_5
  have hg_6 := hle_5 _ _ hg_r0
  have hkp_7 := hkp_3.tr hke_5
  refine lv_astore (lv' := [(4, .ref H_1.size), (3, .int z_4), (0, .ref r0), (1, .int a1), (2, .int a2)]) hx hb dJ7_copyOfRangeInt_feecc_12 hl (by decide) rfl (fun ls hl => ?_)
  refine lv_aload_n hx hb dJ7_copyOfRangeInt_feecc_14 rfl (lv_at hl 2 rfl) ?_
  refine lv_iload_n hx hb dJ7_copyOfRangeInt_feecc_15 rfl (lv_at hl 3 rfl) ?_
  refine lv_aload hx hb dJ7_copyOfRangeInt_feecc_16 (lv_at hl 0 rfl) ?_
  refine lv_iconst (v := 0) hx hb dJ7_copyOfRangeInt_feecc_18 (by decide) ?_
  refine lv_aload_n hx hb dJ7_copyOfRangeInt_feecc_19 rfl (lv_at hl 2 rfl) ?_
  refine j7_len hx hb hK hh_5 hB101 1 rfl (by decide) hg_6 (by omega) dJ7_copyOfRangeInt_feecc_20 (fun z_8 hz_8 => ?_)
  refine lv_iload_n hx hb dJ7_copyOfRangeInt_feecc_21 rfl (lv_at hl 3 rfl) ?_
  refine lv_isub hx hb dJ7_copyOfRangeInt_feecc_22 ?_
  refine lv_topi (fun z_9 ez_9 => ?_)
  have hz_9 : z_9.toInt = z_8.toInt - a1.toInt := by rw [ez_9]; exact jb_isub2 (rfl) (rfl) (by omega)
  refine lv_iload_n hx hb dJ7_copyOfRangeInt_feecc_23 rfl (lv_at hl 1 rfl) ?_
  have hsz_10 := hh_5.2.2.2.2.2.1
  have htt_10 := hh_5.2.2.2.2.2.2.1
  refine W.room (fun hrc_10 hrs_10 => ?_)
  refine va_mmin hx hb (by rw [hml]; exact hl.1.symm) hown (htw (.methodLink RJ7 304 Lib.Math.min.name) (jWr_16 _ (List.mem_of_getElem? (i := 15) rfl))) (htw (.static Lib.Math.min.name) (jWr_16 _ (List.mem_of_getElem? (i := 16) rfl))) (htw (.initialized "java/lang/Math") (jWr_3 _ (List.mem_of_getElem? (i := 7) rfl))) (htw (.code Lib.Math.min.name Lib.Math.min.code 2 (some .int)) (jWr_16 _ (List.mem_of_getElem? (i := 17) rfl))) (by rw [← hR]; exact Nat.le_of_ble_eq_true rfl) (by rw [← hR]; exact Nat.le_of_ble_eq_true rfl) (by rw [hRc]; omega) (by rw [hRs]; omega) dJ7_copyOfRangeInt_feecc_24 ?_
  refine lv_topi (fun z_11 ez_11 => ?_)
  have hz_11 := jb_min ez_11
  refine j7_acopyi hx hb (by rw [hml]; exact hl.1.symm) hown (htw (.methodLink RJ7 150 arraycopyName) (jWr_16 _ (List.mem_of_getElem? (i := 18) rfl))) (htw (.native arraycopyName) (jWr_16 _ (List.mem_of_getElem? (i := 19) rfl))) (htw (.static arraycopyName) (jWr_16 _ (List.mem_of_getElem? (i := 20) rfl))) (htw (.initialized "java/lang/System") (jWr_16 _ (List.mem_of_getElem? (i := 21) rfl))) hK hh_5 hB hB101 hB101 1 rfl (by decide) (by decide) (by decide) rfl rfl rfl hg_6 hgn_5 (x := a1.toInt) (y := 0) (z := z_11.toInt) rfl (by decide) rfl (by omega) (fun _ _ _ => trivial) (by rw [← hR]; exact Nat.le_of_ble_eq_true rfl) (by rw [← hR]; exact Nat.le_of_ble_eq_true rfl) dJ7_copyOfRangeInt_feecc_27 (fun H_12 locs_12 hr_12 hh_12 => ?_)
  have hkp_13 := hkp_7.st hsy_5 hr_12
  clear hr_12
  clear hh_5
  refine lv_aload hx hb dJ7_copyOfRangeInt_feecc_30 (lv_at hl 0 rfl) ?_
  have hsz_14 := hh_12.2.2.2.2.2.1
  have htt_14 := hh_12.2.2.2.2.2.2.1
  refine W.room (fun hrc_14 hrs_14 => ?_)
  refine W.widen (k := LC - s.heap.size) (n := LS - jTot s.heap) (by omega) (by omega) ?_
  rw [hQ]
  exact W.aret (v := .ref H_1.size) hx hb hr (Or.inr ⟨_, rfl⟩) (Or.inr ⟨_, rfl⟩) (fun t ht hW => ⟨⟨.ref H_1.size, (nc_5, G_5), rfl, ⟨⟨_, rfl, hgn_5⟩, ⟨_, rfl, hsy_5⟩, by (try dsimp only); first | omega | rfl | assumption | fail⟩, ⟨hh_12.ra (by first | omega | (simp only; omega)) (by first | omega | (simp only; omega)) (M1 := []) [] rfl ht, hNn_5, by rw [ht]; exact hkp_13⟩⟩, by rw [ht]; try exact hh_12.1.1, fun q h9 hq => by rw [ht]; try exact hh_12.1.2.1 q h9 hq⟩) hh_12.1.2.2 dJ7_copyOfRangeInt_feecc_32
set_option maxHeartbeats 4000000 in
set_option maxRecDepth 20000 in
theorem uJ7_copyOfRange_feeccU (l : Launch) (dC : Nat → ClassId) (dI : Nat → Nat → Nat) (ca : Nat → ClassId) (base : Nat) (B : jF) (hB : jBok B) (hAp : jAp (dC, dI)) (hB101 : ∀ n G a H, B 101 n G a H ↔ jAr (dC, dI) (ca 1) (fun j z => True) n a H) (hB280 : ∀ n G a H, B 280 n G a H ↔ jAr (dC, dI) (ca 1) (fun j z => -1 ≤ z.toInt) n a H) (G0 : jT) (H0 : Heap) (r0 : Nat) (a1 : Int32) (a2 : Int32) (n0 : Nat) (LC LS : Nat) : Met l yJ7_copyOfRange_feecc (jw yJ7_copyOfRange_feecc cJ7_copyOfRange_feecc 3 (some (.array .int))) ({ frames := 2, cells := LC - H0.size, slots := LS - jTot H0, locals := 85 }) (va_Pc [.ref r0, .int a1, .int a2] (fun U => U.heap = H0 ∧ jX B base G0 [] H0 ∧ jG dC dI ca base U ∧ jK8 U ∧ G0 r0 = some (101, n0) ∧ jP (dC, dI) G0 H0 [] ∧ H0.size + 1 ≤ LC ∧ jTot H0 + (a2.toInt - a1.toInt).toNat ≤ LS ∧ 0 ≤ a1.toInt ∧ a1.toInt ≤ a2.toInt ∧ a2.toInt ≤ n0 ∧ n0 ≤ 3000)) (jQx (S := Nat × jT) (fun v u => jRf u.2 101 u.1 v ∧ jNwv v H0 ∧ u.1 = a2.toInt - a1.toInt) (fun u t => jRa (dC, dI) B base G0 u.2 EJ7_copyOfRange_feeccU H0 (1) (u.1) [] t.heap ∧ (jNk [0, 1, 2, 3, 4, 5, 6, 7, 8, 9, 10, 11, 12, 13, 14, 15, 16]) G0 u.2 ∧ jKe G0 u.2 H0 t.heap) (jA base)) (LC - H0.size) (LS - jTot H0) (jA base) := by
  refine Met.ofW (cc := cJ7_copyOfRange_feecc) (maxL := 3) (ret := (some (.array .int))) (by decide) rfl ?_
  intro p e s m args below meth c s₁ Bd hml hv
  obtain ⟨rfl, hH0, hX, hG, hK8, hg_r0, hP0, hLC0, hLS0, hp0, hp1, hp2, hp3⟩ := hv
  have hK := hG.1
  have hx := Bd.exec
  have hb := Bd.bytes
  have hr := Bd.returns
  have hts := atoms_spec (ws := (jw yJ7_copyOfRange_feecc cJ7_copyOfRange_feecc 3 (some (.array .int)))) Bd.pre
  have htw : ∀ w ∈ jWl, w.before _ s = true := fun w h => hts w (List.mem_cons_of_mem _ h)
  have hown : s.vm.findClass RJ7 = some m.cls := findClass_of_methodNamed Bd.named
  have hlocks := Bd.notSynchronized
  obtain ⟨Q, hQ⟩ : ∃ Q, Q = MQ below (jQx (S := Nat × jT) (fun v u => jRf u.2 101 u.1 v ∧ jNwv v H0 ∧ u.1 = a2.toInt - a1.toInt) (fun u t => jRa (dC, dI) B base G0 u.2 EJ7_copyOfRange_feeccU H0 (1) (u.1) [] t.heap ∧ (jNk [0, 1, 2, 3, 4, 5, 6, 7, 8, 9, 10, 11, 12, 13, 14, 15, 16]) G0 u.2 ∧ jKe G0 u.2 H0 t.heap) (jA base)) ([.ref r0, .int a1, .int a2] : List Value).toArray s (LC - H0.size) (LS - jTot H0) (jA base) := ⟨_, rfl⟩
  rw [← hQ]
  have hl := lv_entry ([.ref r0, .int a1, .int a2]) (n := 3) (Nat.le_of_ble_eq_true rfl)
  rw [lg_entry_eq]
  generalize (lg_sl ([.ref r0, .int a1, .int a2]) ++ List.replicate (3 - (lg_sl ([.ref r0, .int a1, .int a2])).length) Slot.unset).toArray = ls at hl ⊢
  have hl : lv_has ls 3 [(0, .ref r0), (1, .int a1), (2, .int a2)] := hl
  generalize hR : (headSpec (jw yJ7_copyOfRange_feecc cJ7_copyOfRange_feecc 3 (some (.array .int))) ({ frames := 2, cells := LC - H0.size, slots := LS - jTot H0, locals := 85 })).room = R
  subst hH0
  have hh : jSt (dC, dI) B base G0 G0 EJ7_copyOfRange_feeccU s.heap 0 0 [] [] [] s.heap [] := jSt.start hX hP0 jMc.nil jIs.nil
  clear hX hP0
  have hk0 : (0 : Int32).toInt = 0 := by decide
  have hk1 : (1 : Int32).toInt = 1 := by decide
  have hrg_a1 := jb_rng a1
  have hrg_a2 := jb_rng a2
  have hbs : base ≤ s.heap.size := Nat.le_of_lt (Nat.lt_of_le_of_lt (hh.ab hg_r0).1 (hh.ab hg_r0).2)
  have hRc : R.cells = LC - s.heap.size := by rw [← hR]; rfl
  have hRs : R.slots = LS - jTot s.heap := by rw [← hR]; rfl
  have hkp : jKe G0 G0 s.heap s.heap := jKe.rf
  refine lv_iload_n hx hb dJ7_copyOfRange_feecc_0 rfl (lv_at hl 1 rfl) ?_
  refine lv_if_ne (tgt := 10) hx hb dJ7_copyOfRange_feecc_1 (by decide) (fun c_1 => ?_) (fun c_1 => ?_)
  · skip
    have c_1' : a1.toInt ≠ 0 := jb_ne (rfl) ((by decide)) c_1
    refine lv_aload_n hx hb dJ7_copyOfRange_feecc_10 rfl (lv_at hl 0 rfl) ?_
    refine lv_iload_n hx hb dJ7_copyOfRange_feecc_11 rfl (lv_at hl 1 rfl) ?_
    refine lv_iload_n hx hb dJ7_copyOfRange_feecc_12 rfl (lv_at hl 2 rfl) ?_
    have hsz_2 := hh.2.2.2.2.2.1
    have htt_2 := hh.2.2.2.2.2.2.1
    refine W.room (fun hrc_2 hrs_2 => ?_)
    refine j_callx (A0 := jA base) (H0 := s.heap) (va_runS (As := [.ref r0, .int a1, .int a2]) (rest := []) ⟨hx, hb, hml, hown, hts⟩ (uJ7_copyOfRangeInt_feeccU l dC dI ca base B hB hAp hB101 G0 s.heap r0 a1 a2 n0 LC LS) (va_cwS 3 hts (jgS (jWr_78 _ (List.mem_of_getElem? (i := 4) rfl)) (jWr_78 _ (List.mem_of_getElem? (i := 5) rfl)) (jWr_16 _ (List.mem_of_getElem? (i := 7) rfl)) (jWr_78 _ (List.mem_of_getElem? (i := 6) rfl))) rfl rfl rfl (by decide +kernel) ⟨by rw [← hR]; exact Nat.le_of_ble_eq_true rfl, by rw [← hR]; exact Nat.le_of_ble_eq_true rfl⟩) ⟨fun a U g mk q => by obtain ⟨q0, q1, q2, qK, q10, q11, q12⟩ := q; exact ⟨q0, q1, q2, jG.calling g mk a qK, q10, q11, q12⟩, fun U hU hW => ⟨rfl, hU, hh.2.1, hG.step hW hU hh.1, hg_r0, jP.nil, by first | omega | (refine ⟨?_, ?_, ?_, ?_⟩ <;> (first | omega | rfl | assumption | decide | exact Or.inl rfl | exact Or.inr rfl | (simp only; omega)))⟩⟩ rfl rfl hl.1 rfl (lv_room (Nat.le_of_ble_eq_true rfl)) dJ7_copyOfRange_feecc_13 ⟨by rw [hRc]; omega, by rw [hRs]; omega⟩) hh.1 (fun q _ h => h) (fun q h => h) (fun r_3 u_2 t_2 H_2 locs_2 ht_2 hvm_2 hr_3 hb_2 hz_2 hk_2 hS_2 => ?_)
    rw [ht_2] at hb_2
    obtain ⟨m_ret_2, G_2⟩ := u_2
    simp only at hb_2
    obtain ⟨⟨hb_21, hb_22, hb_23, hb_24, hb_25, hb_26⟩, hN_2, hbK_2⟩ := hb_2
    have hh_2 : jSt (dC, dI) B base G0 G_2 EJ7_copyOfRange_feeccU s.heap (0 + (1)) (0 + (m_ret_2)) [] [] [] H_2 locs_2 := (hh.callG hb_21 hb_22 hb_23 hb_24 hb_25 hS_2 rfl (L1 := []) [] rfl rfl (M1 := []) [] rfl rfl (I1 := []) [] rfl rfl).more hb_26
    have hNn_2 : (jNk [0, 1, 2, 3, 4, 5, 6, 7, 8, 9, 10, 11, 12, 13, 14, 15, 16]) G0 G_2 := (jNk.rf).tr hN_2
    have hg_4 := hb_22 _ _ hg_r0
    obtain ⟨hr_3, hr_3n, hr_3p⟩ := hr_3
    try simp only at hr_3p
    have hkp_5 := hkp.tr hbK_2
    obtain ⟨ret_6, rfl, hg_ret_6⟩ := hr_3
    have hsy_2 : s.heap.size ≤ ret_6 := Nat.le_trans hh.1.1 hr_3n.le
    have hsz_7 := hh_2.2.2.2.2.2.1
    have htt_7 := hh_2.2.2.2.2.2.2.1
    refine W.room (fun hrc_7 hrs_7 => ?_)
    refine W.widen (k := LC - s.heap.size) (n := LS - jTot s.heap) (by omega) (by omega) ?_
    rw [hQ]
    exact W.aret (v := .ref ret_6) hx hb hr (Or.inr ⟨_, rfl⟩) (Or.inr ⟨_, rfl⟩) (fun t ht hW => ⟨⟨.ref ret_6, (m_ret_2, G_2), rfl, ⟨⟨_, rfl, hg_ret_6⟩, ⟨_, rfl, hsy_2⟩, by (try dsimp only); first | omega | rfl | assumption | fail⟩, ⟨hh_2.ra (by first | omega | (simp only; omega)) (by first | omega | (simp only; omega)) (M1 := []) [] rfl ht, hNn_2, by rw [ht]; exact hkp_5⟩⟩, by rw [ht]; try exact hh_2.1.1, fun q h9 hq => by rw [ht]; try exact hh_2.1.2.1 q h9 hq⟩) hh_2.1.2.2 dJ7_copyOfRange_feecc_16
  · skip
    have c_1' : a1.toInt = 0 := jb_ne_n (rfl) ((by decide)) c_1
    refine lv_iload_n hx hb dJ7_copyOfRange_feecc_4 rfl (lv_at hl 2 rfl) ?_
    refine lv_aload_n hx hb dJ7_copyOfRange_feecc_5 rfl (lv_at hl 0 rfl) ?_
    refine j7_len hx hb hK hh hB101 1 rfl (by decide) hg_r0 (by omega) dJ7_copyOfRange_feecc_6 (fun z_8 hz_8 => ?_)
    refine lv_icmp_eq (tgt := 17) hx hb dJ7_copyOfRange_feecc_7 (by decide) (fun c_9 => ?_) (fun c_9 => ?_)
    · skip
      have c_9' : a2.toInt = z_8.toInt := jb_eq (rfl) (rfl) c_9
      refine lv_aload_n hx hb dJ7_copyOfRange_feecc_17 rfl (lv_at hl 0 rfl) ?_
      have hsz_10 := hh.2.2.2.2.2.1
      have htt_10 := hh.2.2.2.2.2.2.1
      refine j7_cloneK hx hb (by rw [hml]; exact hl.1.symm) hown (htw (.methodLink RJ7 316 ⟨"[I", "clone", "()Ljava/lang/Object;"⟩) (jWr_78 _ (List.mem_of_getElem? (i := 0) rfl))) (htw (.sameMethod "[I" "java/lang/Object" "clone" "()Ljava/lang/Object;") (jWr_78 _ (List.mem_of_getElem? (i := 1) rfl))) (htw (.native ⟨"java/lang/Object", "clone", "()Ljava/lang/Object;"⟩) (jWr_16 _ (List.mem_of_getElem? (i := 11) rfl))) (htw (.instanceMethod ⟨"java/lang/Object", "clone", "()Ljava/lang/Object;"⟩) (jWr_16 _ (List.mem_of_getElem? (i := 12) rfl))) (htw (.selects "[I" ⟨"[I", "clone", "()Ljava/lang/Object;"⟩ ⟨"java/lang/Object", "clone", "()Ljava/lang/Object;"⟩) (jWr_78 _ (List.mem_of_getElem? (i := 2) rfl))) hK8 hK hh hB hB101 1 rfl (by decide) hbs hg_r0 (by rw [← hR]; exact Nat.le_of_ble_eq_true rfl) (by rw [← hR]; exact Nat.le_of_ble_eq_true rfl) (by rw [hRc]; omega) (by rw [hRs]; omega) dJ7_copyOfRange_feecc_18 (fun H_10 hfr_10 hh_10 => ?_)
      have hh_10 : jSt (dC, dI) B base G0 (va_up G0 s.heap.size (some (101, n0))) EJ7_copyOfRange_feeccU s.heap (0 + 1) (0 + n0) [] [] [] H_10 [] := hh_10
      have hN_10 : (jNk [0, 1, 2, 3, 4, 5, 6, 7, 8, 9, 10, 11, 12, 13, 14, 15, 16]) G0 (va_up G0 s.heap.size (some (101, n0))) := jNk.new (by decide)
      have hgn_10 : (va_up G0 s.heap.size (some (101, n0))) s.heap.size = some (101, n0) := jUp_self
      have hle_10 : jLe G0 (va_up G0 s.heap.size (some (101, n0))) := jLe.new hh.2.1.fresh
      have hke_10 : jKe G0 (va_up G0 s.heap.size (some (101, n0))) s.heap H_10 := jKe.new hfr_10
      have hsy_10 : s.heap.size ≤ s.heap.size := hh.1.1
      generalize (va_up G0 s.heap.size (some (101, n0))) = G_10 at hN_10 hgn_10 hle_10 hke_10 hh_10
      clear hh
      have hNn_10 : (jNk [0, 1, 2, 3, 4, 5, 6, 7, 8, 9, 10, 11, 12, 13, 14, 15, 16]) G0 G_10 := (jNk.rf).tr hN_10
      have hg_11 := hle_10 _ _ hg_r0
      have hkp_12 := hkp.tr hke_10
      refine j7_castI hx hb hown (htw (.classLink RJ7 317 "[I") (jWr_78 _ (List.mem_of_getElem? (i := 3) rfl))) hK hh_10 hB101 1 rfl (by decide) hgn_10 dJ7_copyOfRange_feecc_21 ?_
      have hsz_13 := hh_10.2.2.2.2.2.1
      have htt_13 := hh_10.2.2.2.2.2.2.1
      refine W.room (fun hrc_13 hrs_13 => ?_)
      refine W.widen (k := LC - s.heap.size) (n := LS - jTot s.heap) (by omega) (by omega) ?_
      rw [hQ]
      exact W.aret (v := .ref s.heap.size) hx hb hr (Or.inr ⟨_, rfl⟩) (Or.inr ⟨_, rfl⟩) (fun t ht hW => ⟨⟨.ref s.heap.size, (n0, G_10), rfl, ⟨⟨_, rfl, hgn_10⟩, ⟨_, rfl, hsy_10⟩, by (try dsimp only); first | omega | rfl | assumption | fail⟩, ⟨hh_10.ra (by first | omega | (simp only; omega)) (by first | omega | (simp only; omega)) (M1 := []) [] rfl ht, hNn_10, by rw [ht]; exact hkp_12⟩⟩, by rw [ht]; try exact hh_10.1.1, fun q h9 hq => by rw [ht]; try exact hh_10.1.2.1 q h9 hq⟩) hh_10.1.2.2 dJ7_copyOfRange_feecc_24
    · skip
      have c_9' : a2.toInt ≠ z_8.toInt := jb_eq_n (rfl) (rfl) c_9
      refine lv_aload_n hx hb dJ7_copyOfRange_feecc_10 rfl (lv_at hl 0 rfl) ?_
      refine lv_iload_n hx hb dJ7_copyOfRange_feecc_11 rfl (lv_at hl 1 rfl) ?_
      refine lv_iload_n hx hb dJ7_copyOfRange_feecc_12 rfl (lv_at hl 2 rfl) ?_
      have hsz_14 := hh.2.2.2.2.2.1
      have htt_14 := hh.2.2.2.2.2.2.1
      refine W.room (fun hrc_14 hrs_14 => ?_)
      refine j_callx (A0 := jA base) (H0 := s.heap) (va_runS (As := [.ref r0, .int a1, .int a2]) (rest := []) ⟨hx, hb, hml, hown, hts⟩ (uJ7_copyOfRangeInt_feeccU l dC dI ca base B hB hAp hB101 G0 s.heap r0 a1 a2 n0 LC LS) (va_cwS 3 hts (jgS (jWr_78 _ (List.mem_of_getElem? (i := 4) rfl)) (jWr_78 _ (List.mem_of_getElem? (i := 5) rfl)) (jWr_16 _ (List.mem_of_getElem? (i := 7) rfl)) (jWr_78 _ (List.mem_of_getElem? (i := 6) rfl))) rfl rfl rfl (by decide +kernel) ⟨by rw [← hR]; exact Nat.le_of_ble_eq_true rfl, by rw [← hR]; exact Nat.le_of_ble_eq_true rfl⟩) ⟨fun a U g mk q => by obtain ⟨q0, q1, q2, qK, q10, q11, q12⟩ := q; exact ⟨q0, q1, q2, jG.calling g mk a qK, q10, q11, q12⟩, fun U hU hW => ⟨rfl, hU, hh.2.1, hG.step hW hU hh.1, hg_r0, jP.nil, by first | omega | (refine ⟨?_, ?_, ?_, ?_⟩ <;> (first | omega | rfl | assumption | decide | exact Or.inl rfl | exact Or.inr rfl | (simp only; omega)))⟩⟩ rfl rfl hl.1 rfl (lv_room (Nat.le_of_ble_eq_true rfl)) dJ7_copyOfRange_feecc_13 ⟨by rw [hRc]; omega, by rw [hRs]; omega⟩) hh.1 (fun q _ h => h) (fun q h => h) (fun r_15 u_14 t_14 H_14 locs_14 ht_14 hvm_14 hr_15 hb_14 hz_14 hk_14 hS_14 => ?_)
      rw [ht_14] at hb_14
      obtain ⟨m_ret_14, G_14⟩ := u_14
      simp only at hb_14
      obtain ⟨⟨hb_141, hb_142, hb_143, hb_144, hb_145, hb_146⟩, hN_14, hbK_14⟩ := hb_14
      have hh_14 : jSt (dC, dI) B base G0 G_14 EJ7_copyOfRange_feeccU s.heap (0 + (1)) (0 + (m_ret_14)) [] [] [] H_14 locs_14 := (hh.callG hb_141 hb_142 hb_143 hb_144 hb_145 hS_14 rfl (L1 := []) [] rfl rfl (M1 := []) [] rfl rfl (I1 := []) [] rfl rfl).more hb_146
      have hNn_14 : (jNk [0, 1, 2, 3, 4, 5, 6, 7, 8, 9, 10, 11, 12, 13, 14, 15, 16]) G0 G_14 := (jNk.rf).tr hN_14
      have hg_16 := hb_142 _ _ hg_r0
      obtain ⟨hr_15, hr_15n, hr_15p⟩ := hr_15
      try simp only at hr_15p
      have hkp_17 := hkp.tr hbK_14
      obtain ⟨ret_18, rfl, hg_ret_18⟩ := hr_15
      have hsy_14 : s.heap.size ≤ ret_18 := Nat.le_trans hh.1.1 hr_15n.le
      have hsz_19 := hh_14.2.2.2.2.2.1
      have htt_19 := hh_14.2.2.2.2.2.2.1
      refine W.room (fun hrc_19 hrs_19 => ?_)
      refine W.widen (k := LC - s.heap.size) (n := LS - jTot s.heap) (by omega) (by omega) ?_
      rw [hQ]
      exact W.aret (v := .ref ret_18) hx hb hr (Or.inr ⟨_, rfl⟩) (Or.inr ⟨_, rfl⟩) (fun t ht hW => ⟨⟨.ref ret_18, (m_ret_14, G_14), rfl, ⟨⟨_, rfl, hg_ret_18⟩, ⟨_, rfl, hsy_14⟩, by (try dsimp only); first | omega | rfl | assumption | fail⟩, ⟨hh_14.ra (by first | omega | (simp only; omega)) (by first | omega | (simp only; omega)) (M1 := []) [] rfl ht, hNn_14, by rw [ht]; exact hkp_17⟩⟩, by rw [ht]; try exact hh_14.1.1, fun q h9 hq => by rw [ht]; try exact hh_14.1.2.1 q h9 hq⟩) hh_14.1.2.2 dJ7_copyOfRange_feecc_16
