section
def EJ7_copyOfRangeInt_feeccN : List (Nat × Nat) := []
def EJ7_copyOfRange_feeccN : List (Nat × Nat) := []
def EX9_init_N : List (Nat × Nat) := []
def EX5_checkN : List (Nat × Nat) := [(7, 5), (7, 10), (8, 3), (11, 2), (11, 3), (11, 4), (11, 5), (11, 6), (11, 7), (11, 8), (12, 3), (12, 4), (12, 5), (12, 7), (12, 8), (12, 10), (101, 0), (102, 0), (132, 0), (133, 0), (211, 0), (280, 0), (290, 0), (291, 0), (292, 0), (293, 0)]
set_option maxHeartbeats 4000000 in
set_option maxRecDepth 20000 in
theorem uJ7_copyOfRangeInt_feeccN (l : Launch) (dC : Nat → ClassId) (dI : Nat → Nat → Nat) (ca : Nat → ClassId) (base : Nat) (B : jF) (hB : jBok B) (hAp : jAp (dC, dI)) (hB173 : ∀ n G a H, B 173 n G a H ↔ jAr (dC, dI) (ca 1) (fun j z => True) n a H) (hB175 : ∀ n G a H, B 175 n G a H ↔ jAr (dC, dI) (ca 1) (fun j z => True) n a H) (G0 : jT) (H0 : Heap) (r0 : Nat) (a1 : Int32) (a2 : Int32) (n0 : Nat) (us : Nat → List Int) (rw : Nat → List Int) (f0 : Nat → Int32) (LC LS : Nat) : Met l yJ7_copyOfRangeInt_feecc (jw yJ7_copyOfRangeInt_feecc cJ7_copyOfRangeInt_feecc 5 (some (.array .int))) ({ frames := 1, cells := LC - H0.size, slots := LS - jTot H0, locals := 61 }) (va_Pc [.ref r0, .int a1, .int a2] (fun U => U.heap = H0 ∧ jX B base G0 [] H0 ∧ jG dC dI ca base U ∧ G0 r0 = some (173, n0) ∧ jP (dC, dI) G0 H0 [] ∧ jMc (dC, dI) G0 H0 [(r0, 173, n0, ca 1, f0)] ∧ jIs (dC, dI) G0 H0 [(jFun, jUN dC dI ca G0 0 us rw)] ∧ H0.size + 1 ≤ LC ∧ jTot H0 + (a2.toInt - a1.toInt).toNat ≤ LS ∧ 0 ≤ a1.toInt ∧ a1.toInt ≤ a2.toInt ∧ a2.toInt ≤ n0 ∧ n0 ≤ 3000)) (jQx (S := (Nat → List Int) × Nat × Nat × jT) (fun v u => v = .ref u.2.1 ∧ jRf u.2.2.2 175 u.2.2.1 v ∧ jNwv v H0 ∧ u.2.2.1 = a2.toInt - a1.toInt ∧ u.1 = jUf us u.2.1 (jcL f0 (a2.toInt - a1.toInt).toNat a1.toInt)) (fun u t => jRa (dC, dI) B base G0 u.2.2.2 EJ7_copyOfRangeInt_feeccN H0 (1) (u.2.2.1) [] t.heap ∧ (jNk [0, 1, 2, 3, 4, 5, 6, 7, 8, 9, 10, 11, 12, 13, 14, 15, 16, 17]) G0 u.2.2.2 ∧ (∃ f : Nat → Int32, va_at (dC, dI) vwCl (u.2.1, .inl (ca 1, u.2.2.1, .inl f)) t.heap ∧ (True)) ∧ jKe G0 u.2.2.2 H0 t.heap ∧ jIs (dC, dI) u.2.2.2 t.heap [(jFun, jUN dC dI ca u.2.2.2 0 (u.1) rw)]) (jA base)) (LC - H0.size) (LS - jTot H0) (jA base) := by
  refine Met.ofW (cc := cJ7_copyOfRangeInt_feecc) (maxL := 5) (ret := (some (.array .int))) (by decide) rfl ?_
  intro p e s m args below meth c s₁ Bd hml hv
  obtain ⟨rfl, hH0, hX, hG, hg_r0, hP0, hM0, hI0, hLC0, hLS0, hp0, hp1, hp2, hp3⟩ := hv
  have hK := hG.1
  have hx := Bd.exec
  have hb := Bd.bytes
  have hr := Bd.returns
  have hts := atoms_spec (ws := (jw yJ7_copyOfRangeInt_feecc cJ7_copyOfRangeInt_feecc 5 (some (.array .int)))) Bd.pre
  have htw : ∀ w ∈ jWl, w.before _ s = true := fun w h => hts w (List.mem_cons_of_mem _ h)
  have hown : s.vm.findClass RJ7 = some m.cls := findClass_of_methodNamed Bd.named
  have hlocks := Bd.notSynchronized
  obtain ⟨Q, hQ⟩ : ∃ Q, Q = MQ below (jQx (S := (Nat → List Int) × Nat × Nat × jT) (fun v u => v = .ref u.2.1 ∧ jRf u.2.2.2 175 u.2.2.1 v ∧ jNwv v H0 ∧ u.2.2.1 = a2.toInt - a1.toInt ∧ u.1 = jUf us u.2.1 (jcL f0 (a2.toInt - a1.toInt).toNat a1.toInt)) (fun u t => jRa (dC, dI) B base G0 u.2.2.2 EJ7_copyOfRangeInt_feeccN H0 (1) (u.2.2.1) [] t.heap ∧ (jNk [0, 1, 2, 3, 4, 5, 6, 7, 8, 9, 10, 11, 12, 13, 14, 15, 16, 17]) G0 u.2.2.2 ∧ (∃ f : Nat → Int32, va_at (dC, dI) vwCl (u.2.1, .inl (ca 1, u.2.2.1, .inl f)) t.heap ∧ (True)) ∧ jKe G0 u.2.2.2 H0 t.heap ∧ jIs (dC, dI) u.2.2.2 t.heap [(jFun, jUN dC dI ca u.2.2.2 0 (u.1) rw)]) (jA base)) ([.ref r0, .int a1, .int a2] : List Value).toArray s (LC - H0.size) (LS - jTot H0) (jA base) := ⟨_, rfl⟩
  rw [← hQ]
  have hl := lv_entry ([.ref r0, .int a1, .int a2]) (n := 5) (Nat.le_of_ble_eq_true rfl)
  rw [lg_entry_eq]
  generalize (lg_sl ([.ref r0, .int a1, .int a2]) ++ List.replicate (5 - (lg_sl ([.ref r0, .int a1, .int a2])).length) Slot.unset).toArray = ls at hl ⊢
  have hl : lv_has ls 5 [(0, .ref r0), (1, .int a1), (2, .int a2)] := hl
  generalize hR : (headSpec (jw yJ7_copyOfRangeInt_feecc cJ7_copyOfRangeInt_feecc 5 (some (.array .int))) ({ frames := 1, cells := LC - H0.size, slots := LS - jTot H0, locals := 61 })).room = R
  subst hH0
  have hh : jSt (dC, dI) B base G0 G0 EJ7_copyOfRangeInt_feeccN s.heap 0 0 [] [(r0, 173, n0, ca 1, f0)] [(jFun, jUN dC dI ca G0 0 us rw)] s.heap [] := jSt.start hX hP0 hM0 hI0
  clear hX hP0
  have hk0 : (0 : Int32).toInt = 0 := by decide
  have hk1 : (1 : Int32).toInt = 1 := by decide
  have hrg_a1 := jb_rng a1
  have hrg_a2 := jb_rng a2
  have hbs : base ≤ s.heap.size := Nat.le_of_lt (Nat.lt_of_le_of_lt (hh.ab hg_r0).1 (hh.ab hg_r0).2)
  have hRc : R.cells = LC - s.heap.size := by rw [← hR]; rfl
  have hRs : R.slots = LS - jTot s.heap := by rw [← hR]; rfl
  have hkp : jKe G0 G0 s.heap s.heap := jKe.rf
  refine lv_iload_n hx hb dJ7_copyOfRangeInt_feecc_0 rfl (lv_at hl 1 rfl) ?_
  refine lv_iload_n hx hb dJ7_copyOfRangeInt_feecc_1 rfl (lv_at hl 2 rfl) ?_
  have hsz_1 := hh.2.2.2.2.2.1
  have htt_1 := hh.2.2.2.2.2.2.1
  refine W.room (fun hrc_1 hrs_1 => ?_)
  refine va_callv (A0 := jA base) (H0 := s.heap) (va_runS (As := [.int a1, .int a2]) (rest := []) ⟨hx, hb, hml, hown, hts⟩ (uJ7_checkLength_df160 l dC dI ca base B hB hAp G0 s.heap a1 a2) (va_cwS 2 hts (jgS (jWr_78 _ (List.mem_of_getElem? (i := 7) rfl)) (jWr_78 _ (List.mem_of_getElem? (i := 8) rfl)) (jWr_16 _ (List.mem_of_getElem? (i := 7) rfl)) (jWr_78 _ (List.mem_of_getElem? (i := 9) rfl))) rfl rfl rfl (by decide +kernel) ⟨by rw [← hR]; exact Nat.le_of_ble_eq_true rfl, by rw [← hR]; exact Nat.le_of_ble_eq_true rfl⟩) ⟨fun a U g mk q => by obtain ⟨q0, q1, q2, qK, q10, q11⟩ := q; exact ⟨q0, q1, q2, jG.calling g mk a qK, q10, q11⟩, fun U hU hW => ⟨rfl, hU, hh.2.1, hG.step hW hU hh.1, jP.nil, by first | omega | rfl | assumption | decide | exact Or.inl rfl | exact Or.inr rfl | (simp only; omega)⟩⟩ rfl rfl hl.1 rfl (lv_room (Nat.le_of_ble_eq_true rfl)) dJ7_copyOfRangeInt_feecc_2 ⟨by rw [hRc]; show _ + 0 ≤ _; omega, by rw [hRs]; show _ + 0 ≤ _; omega⟩) hh.1 (fun q _ h => h) (fun q h => h) (fun u_1 t_1 H_1 locs_1 ht_1 hvm_1 hr_2 hb_1 hz_1 hk_1 hS_1 => ?_)
  rw [ht_1] at hb_1
  obtain ⟨hb_1, hbF_1⟩ := hb_1
  obtain ⟨hb_11, hb_12, hb_13, hb_14, hb_15⟩ := hb_1
  have hh_1 : jSt (dC, dI) B base G0 G0 EJ7_copyOfRangeInt_feeccN s.heap 0 0 [] [(r0, 173, n0, ca 1, f0)] [(jFun, jUN dC dI ca G0 0 us rw)] H_1 locs_1 := ((hh.call hb_11 hb_12 hb_13 hb_14 hS_1 rfl (L1 := []) [] rfl rfl (M1 := [(r0, 173, n0, ca 1, f0)]) [0] rfl rfl (I1 := [(jFun, jUN dC dI ca G0 0 us rw)]) [0] rfl rfl).more hb_15)
  clear hh ht_1 hvm_1 hz_1 hk_1 hS_1 hb_11 hb_12 hb_13 hb_14 hb_15
  have hkp_3 := hkp.fl hbF_1 (by intro q h9; simp at h9)
  refine lv_iload_n hx hb dJ7_copyOfRangeInt_feecc_5 rfl (lv_at hl 2 rfl) ?_
  refine lv_iload_n hx hb dJ7_copyOfRangeInt_feecc_6 rfl (lv_at hl 1 rfl) ?_
  refine lv_isub hx hb dJ7_copyOfRangeInt_feecc_7 ?_
  refine lv_topi (fun z_4 ez_4 => ?_)
  have hz_4 : z_4.toInt = a2.toInt - a1.toInt := by rw [ez_4]; exact jb_isub2 (rfl) (rfl) (by omega)
  refine lv_istore_n (lv' := [(3, .int z_4), (0, .ref r0), (1, .int a1), (2, .int a2)]) hx hb dJ7_copyOfRangeInt_feecc_8 rfl hl (by decide) rfl (fun ls hl => ?_)
  refine lv_iload_n hx hb dJ7_copyOfRangeInt_feecc_9 rfl (lv_at hl 0 rfl) ?_
  have hsz_5 := hh_1.2.2.2.2.2.1
  have htt_5 := hh_1.2.2.2.2.2.2.1
  have hsy_5 : s.heap.size ≤ H_1.size := hh_1.1.1
  refine j7_newiR hx hb hK hh_1 hB (atype := .int) (ty := .int) (htw (.arrayClass .int) (jWr_3 _ (List.mem_of_getElem? (i := 20) rfl))) rfl rfl (fun _ h => h) 1 rfl (by decide) (x := z_4.toInt) rfl (by omega) (by rw [hRc]; omega) (by rw [hRs]; omega) dJ7_copyOfRangeInt_feecc_10 (fun H_5 hfr_5 hnr_5 hraw_5 hh_5 => ?_)
  have hke_5 : jKe G0 G0 H_1 H_5 := jKe.raw hfr_5
  have hbr_5 : base ≤ H_1.size := Nat.le_trans hbs hsy_5
  obtain ⟨nq_5, hnq_5⟩ : ∃ q : Nat, q = (z_4.toInt).toNat := ⟨_, rfl⟩
  rw [← hnq_5] at hraw_5 hh_5 ⊢
  clear hh_1
  have hkp_6 := hkp_3.tr hke_5
  refine lv_astore (lv' := [(4, .ref H_1.size), (3, .int z_4), (0, .ref r0), (1, .int a1), (2, .int a2)]) hx hb dJ7_copyOfRangeInt_feecc_12 hl (by decide) rfl (fun ls hl => ?_)
  refine lv_aload_n hx hb dJ7_copyOfRangeInt_feecc_14 rfl (lv_at hl 2 rfl) ?_
  refine lv_iload_n hx hb dJ7_copyOfRangeInt_feecc_15 rfl (lv_at hl 3 rfl) ?_
  refine lv_aload hx hb dJ7_copyOfRangeInt_feecc_16 (lv_at hl 0 rfl) ?_
  refine lv_iconst (v := 0) hx hb dJ7_copyOfRangeInt_feecc_18 (by decide) ?_
  refine lv_aload_n hx hb dJ7_copyOfRangeInt_feecc_19 rfl (lv_at hl 2 rfl) ?_
  refine j7_len hx hb hK hh_5 hB173 1 rfl (by decide) hg_r0 (by omega) dJ7_copyOfRangeInt_feecc_20 (fun z_7 hz_7 => ?_)
  refine lv_iload_n hx hb dJ7_copyOfRangeInt_feecc_21 rfl (lv_at hl 3 rfl) ?_
  refine lv_isub hx hb dJ7_copyOfRangeInt_feecc_22 ?_
  refine lv_topi (fun z_8 ez_8 => ?_)
  have hz_8 : z_8.toInt = z_7.toInt - a1.toInt := by rw [ez_8]; exact jb_isub2 (rfl) (rfl) (by omega)
  refine lv_iload_n hx hb dJ7_copyOfRangeInt_feecc_23 rfl (lv_at hl 1 rfl) ?_
  have hsz_9 := hh_5.2.2.2.2.2.1
  have htt_9 := hh_5.2.2.2.2.2.2.1
  refine W.room (fun hrc_9 hrs_9 => ?_)
  refine va_mmin hx hb (by rw [hml]; exact hl.1.symm) hown (htw (.methodLink RJ7 304 Lib.Math.min.name) (jWr_16 _ (List.mem_of_getElem? (i := 15) rfl))) (htw (.static Lib.Math.min.name) (jWr_16 _ (List.mem_of_getElem? (i := 16) rfl))) (htw (.initialized "java/lang/Math") (jWr_3 _ (List.mem_of_getElem? (i := 7) rfl))) (htw (.code Lib.Math.min.name Lib.Math.min.code 2 (some .int)) (jWr_16 _ (List.mem_of_getElem? (i := 17) rfl))) (by rw [← hR]; exact Nat.le_of_ble_eq_true rfl) (by rw [← hR]; exact Nat.le_of_ble_eq_true rfl) (by rw [hRc]; omega) (by rw [hRs]; omega) dJ7_copyOfRangeInt_feecc_24 ?_
  refine lv_topi (fun z_10 ez_10 => ?_)
  have hz_10 := jb_min ez_10
  refine j7_acopyRX hx hb (by rw [hml]; exact hl.1.symm) hown (htw (.methodLink RJ7 150 arraycopyName) (jWr_16 _ (List.mem_of_getElem? (i := 18) rfl))) (htw (.native arraycopyName) (jWr_16 _ (List.mem_of_getElem? (i := 19) rfl))) (htw (.static arraycopyName) (jWr_16 _ (List.mem_of_getElem? (i := 20) rfl))) (htw (.initialized "java/lang/System") (jWr_16 _ (List.mem_of_getElem? (i := 21) rfl))) hK hh_5 hB (show va_at (dC, dI) vwCl (r0, .inl (ca 1, n0, .inl f0)) H_5 from (hh_5.2.2.2.2.2.2.2.1 _ (List.mem_of_getElem? (i := 0) rfl)).2.2.2) 1 rfl hraw_5 hnr_5 hbr_5 (x := a1.toInt) (y := 0) (z := z_10.toInt) rfl (by decide) rfl (by omega) (by rw [← hR]; exact Nat.le_of_ble_eq_true rfl) (by rw [← hR]; exact Nat.le_of_ble_eq_true rfl) dJ7_copyOfRangeInt_feecc_27 (fun H_11 locs_11 g_11 hraw_11 hc_11 hr_11 hh_11 => ?_)
  have hkp_12 := hkp_6.st hsy_5 hr_11
  clear hr_11
  clear hh_5
  refine lv_aload hx hb dJ7_copyOfRangeInt_feecc_30 (lv_at hl 0 rfl) ?_
  have hsz_13 := hh_11.2.2.2.2.2.1
  have htt_13 := hh_11.2.2.2.2.2.2.1
  refine W.room (fun hrc_13 hrs_13 => ?_)
  refine W.widen (k := LC - s.heap.size) (n := LS - jTot s.heap) (by omega) (by omega) ?_
  rw [hQ]
  have hnr_14 := jUN.row (r := 0) (hh_11.iv 0 rfl) hnr_5 hraw_11
  have hh_15 := hh_11.sub (L1 := []) [] rfl (M1 := [(r0, 173, n0, ca 1, f0)]) [0] rfl (I1 := []) [] rfl
  clear hh_11
  have hle_16 : jLe G0 (va_up G0 H_1.size (some (175, nq_5))) := jLe.typ hnr_5
  have hh_16 := hh_15.typ (k := 175) (n := nq_5) hB hnr_5 hbr_5 hraw_11.lt (jAr.of hB175 hraw_11 (fun _ _ => trivial))
  have hgn_16 : (va_up G0 H_1.size (some (175, nq_5))) H_1.size = some (175, nq_5) := jUp_self
  have hN_16 : (jNk [0, 1, 2, 3, 4, 5, 6, 7, 8, 9, 10, 11, 12, 13, 14, 15, 16, 17]) G0 (va_up G0 H_1.size (some (175, nq_5))) := jNk.new (by decide)
  have hNn_16 : (jNk [0, 1, 2, 3, 4, 5, 6, 7, 8, 9, 10, 11, 12, 13, 14, 15, 16, 17]) G0 (va_up G0 H_1.size (some (175, nq_5))) := (jNk.rf).tr hN_16
  have hkp_17 := hkp_12.typn (t := some (175, nq_5)) hsy_5
  have hh_18 := hh_16.addI (jUN.ie hnr_14)
  clear hh_16
  exact W.aret (v := .ref H_1.size) hx hb hr (Or.inr ⟨_, rfl⟩) (Or.inr ⟨_, rfl⟩) (fun t ht hW => ⟨⟨.ref H_1.size, ((jUf us (H_1.size) (jcL g_11 nq_5 0)), H_1.size, nq_5, (va_up G0 H_1.size (some (175, nq_5)))), rfl, ⟨rfl, ⟨_, rfl, hgn_16⟩, ⟨_, rfl, hsy_5⟩, by skip; (try dsimp only); refine ⟨by omega, ?_⟩; exact congrArg (jUf us _) (jnC.of (fun j _ => hc_11 j) (by omega) (by omega) (by omega) (by omega))⟩, ⟨hh_18.ra (by first | (simp only; omega) | omega) (by first | (simp only; omega) | omega) (M1 := []) [] rfl ht, hNn_16, ⟨_, by rw [ht]; exact hraw_11, trivial⟩, by rw [ht]; exact hkp_17, by rw [ht]; exact hh_18.2.2.2.2.2.2.2.2.sub (L1 := [(jFun, jUN dC dI ca (va_up G0 H_1.size (some (175, nq_5))) 0 (jUf us (H_1.size) (jcL g_11 nq_5 0)) rw)]) [0] rfl⟩⟩, by rw [ht]; try exact hh_18.1.1, fun q h9 hq => by rw [ht]; try exact hh_18.1.2.1 q h9 hq⟩) hh_18.1.2.2 dJ7_copyOfRangeInt_feecc_32
set_option maxHeartbeats 4000000 in
set_option maxRecDepth 20000 in
theorem uJ7_copyOfRange_feeccN (l : Launch) (dC : Nat → ClassId) (dI : Nat → Nat → Nat) (ca : Nat → ClassId) (base : Nat) (B : jF) (hB : jBok B) (hAp : jAp (dC, dI)) (hB173 : ∀ n G a H, B 173 n G a H ↔ jAr (dC, dI) (ca 1) (fun j z => True) n a H) (hB175 : ∀ n G a H, B 175 n G a H ↔ jAr (dC, dI) (ca 1) (fun j z => True) n a H) (hB280 : ∀ n G a H, B 280 n G a H ↔ jAr (dC, dI) (ca 1) (fun j z => -1 ≤ z.toInt) n a H) (G0 : jT) (H0 : Heap) (r0 : Nat) (a1 : Int32) (a2 : Int32) (n0 : Nat) (us : Nat → List Int) (rw : Nat → List Int) (f0 : Nat → Int32) (LC LS : Nat) : Met l yJ7_copyOfRange_feecc (jw yJ7_copyOfRange_feecc cJ7_copyOfRange_feecc 3 (some (.array .int))) ({ frames := 2, cells := LC - H0.size, slots := LS - jTot H0, locals := 85 }) (va_Pc [.ref r0, .int a1, .int a2] (fun U => U.heap = H0 ∧ jX B base G0 [] H0 ∧ jG dC dI ca base U ∧ jK8 U ∧ G0 r0 = some (173, n0) ∧ jP (dC, dI) G0 H0 [] ∧ jMc (dC, dI) G0 H0 [(r0, 173, n0, ca 1, f0)] ∧ jIs (dC, dI) G0 H0 [(jFun, jUN dC dI ca G0 0 us rw)] ∧ H0.size + 1 ≤ LC ∧ jTot H0 + (a2.toInt - a1.toInt).toNat ≤ LS ∧ 0 ≤ a1.toInt ∧ a1.toInt ≤ a2.toInt ∧ a2.toInt ≤ n0 ∧ n0 ≤ 3000)) (jQx (S := (Nat → List Int) × Nat × Nat × jT) (fun v u => v = .ref u.2.1 ∧ jRf u.2.2.2 175 u.2.2.1 v ∧ jNwv v H0 ∧ u.2.2.1 = a2.toInt - a1.toInt ∧ u.1 = jUf us u.2.1 (jcL f0 (a2.toInt - a1.toInt).toNat a1.toInt)) (fun u t => jRa (dC, dI) B base G0 u.2.2.2 EJ7_copyOfRange_feeccN H0 (1) (u.2.2.1) [] t.heap ∧ (jNk [0, 1, 2, 3, 4, 5, 6, 7, 8, 9, 10, 11, 12, 13, 14, 15, 16, 17]) G0 u.2.2.2 ∧ (∃ f : Nat → Int32, va_at (dC, dI) vwCl (u.2.1, .inl (ca 1, u.2.2.1, .inl f)) t.heap ∧ (True)) ∧ jKe G0 u.2.2.2 H0 t.heap ∧ jIs (dC, dI) u.2.2.2 t.heap [(jFun, jUN dC dI ca u.2.2.2 0 (u.1) rw)]) (jA base)) (LC - H0.size) (LS - jTot H0) (jA base) := by
  refine Met.ofW (cc := cJ7_copyOfRange_feecc) (maxL := 3) (ret := (some (.array .int))) (by decide) rfl ?_
  intro p e s m args below meth c s₁ Bd hml hv
  obtain ⟨rfl, hH0, hX, hG, hK8, hg_r0, hP0, hM0, hI0, hLC0, hLS0, hp0, hp1, hp2, hp3⟩ := hv
  have hK := hG.1
  have hx := Bd.exec
  have hb := Bd.bytes
  have hr := Bd.returns
  have hts := atoms_spec (ws := (jw yJ7_copyOfRange_feecc cJ7_copyOfRange_feecc 3 (some (.array .int)))) Bd.pre
  have htw : ∀ w ∈ jWl, w.before _ s = true := fun w h => hts w (List.mem_cons_of_mem _ h)
  have hown : s.vm.findClass RJ7 = some m.cls := findClass_of_methodNamed Bd.named
  have hlocks := Bd.notSynchronized
  obtain ⟨Q, hQ⟩ : ∃ Q, Q = MQ below (jQx (S := (Nat → List Int) × Nat × Nat × jT) (fun v u => v = .ref u.2.1 ∧ jRf u.2.2.2 175 u.2.2.1 v ∧ jNwv v H0 ∧ u.2.2.1 = a2.toInt - a1.toInt ∧ u.1 = jUf us u.2.1 (jcL f0 (a2.toInt - a1.toInt).toNat a1.toInt)) (fun u t => jRa (dC, dI) B base G0 u.2.2.2 EJ7_copyOfRange_feeccN H0 (1) (u.2.2.1) [] t.heap ∧ (jNk [0, 1, 2, 3, 4, 5, 6, 7, 8, 9, 10, 11, 12, 13, 14, 15, 16, 17]) G0 u.2.2.2 ∧ (∃ f : Nat → Int32, va_at (dC, dI) vwCl (u.2.1, .inl (ca 1, u.2.2.1, .inl f)) t.heap ∧ (True)) ∧ jKe G0 u.2.2.2 H0 t.heap ∧ jIs (dC, dI) u.2.2.2 t.heap [(jFun, jUN dC dI ca u.2.2.2 0 (u.1) rw)]) (jA base)) ([.ref r0, .int a1, .int a2] : List Value).toArray s (LC - H0.size) (LS - jTot H0) (jA base) := ⟨_, rfl⟩
  rw [← hQ]
  have hl := lv_entry ([.ref r0, .int a1, .int a2]) (n := 3) (Nat.le_of_ble_eq_true rfl)
  rw [lg_entry_eq]
  generalize (lg_sl ([.ref r0, .int a1, .int a2]) ++ List.replicate (3 - (lg_sl ([.ref r0, .int a1, .int a2])).length) Slot.unset).toArray = ls at hl ⊢
  have hl : lv_has ls 3 [(0, .ref r0), (1, .int a1), (2, .int a2)] := hl
  generalize hR : (headSpec (jw yJ7_copyOfRange_feecc cJ7_copyOfRange_feecc 3 (some (.array .int))) ({ frames := 2, cells := LC - H0.size, slots := LS - jTot H0, locals := 85 })).room = R
  subst hH0
  have hh : jSt (dC, dI) B base G0 G0 EJ7_copyOfRange_feeccN s.heap 0 0 [] [(r0, 173, n0, ca 1, f0)] [(jFun, jUN dC dI ca G0 0 us rw)] s.heap [] := jSt.start hX hP0 hM0 hI0
  clear hX hP0
  have hk0 : (0 : Int32).toInt = 0 := by decide
  have hk1 : (1 : Int32).toInt = 1 := by decide
  have hrg_a1 := jb_rng a1
  have hrg_a2 := jb_rng a2
  have hbs : base ≤ s.heap.size := Nat.le_of_lt (Nat.lt_of_le_of_lt (hh.ab hg_r0).1 (hh.ab hg_r0).2)
  have hRc : R.cells = LC - s.heap.size := by rw [← hR]; rfl
  have hRs : R.slots = LS - jTot s.heap := by rw [← hR]; rfl
  have hkp : jKe G0 G0 s.heap s.heap := jKe.rf
  refine lv_iload_n hx hb dJ7_copyOfRange_feecc_0 rfl (lv_at hl 1 rfl) ?_
  refine lv_if_ne (tgt := 10) hx hb dJ7_copyOfRange_feecc_1 (by decide) (fun c_1 => ?_) (fun c_1 => ?_)
  · skip
    have c_1' : a1.toInt ≠ 0 := jb_ne (rfl) ((by decide)) c_1
    refine lv_aload_n hx hb dJ7_copyOfRange_feecc_10 rfl (lv_at hl 0 rfl) ?_
    refine lv_iload_n hx hb dJ7_copyOfRange_feecc_11 rfl (lv_at hl 1 rfl) ?_
    refine lv_iload_n hx hb dJ7_copyOfRange_feecc_12 rfl (lv_at hl 2 rfl) ?_
    have hsz_2 := hh.2.2.2.2.2.1
    have htt_2 := hh.2.2.2.2.2.2.1
    refine W.room (fun hrc_2 hrs_2 => ?_)
    refine j_callx (A0 := jA base) (H0 := s.heap) (va_runS (As := [.ref r0, .int a1, .int a2]) (rest := []) ⟨hx, hb, hml, hown, hts⟩ (uJ7_copyOfRangeInt_feeccN l dC dI ca base B hB hAp hB173 hB175 G0 s.heap r0 a1 a2 n0 us rw f0 LC LS) (va_cwS 3 hts (jgS (jWr_78 _ (List.mem_of_getElem? (i := 4) rfl)) (jWr_78 _ (List.mem_of_getElem? (i := 5) rfl)) (jWr_16 _ (List.mem_of_getElem? (i := 7) rfl)) (jWr_78 _ (List.mem_of_getElem? (i := 6) rfl))) rfl rfl rfl (by decide +kernel) ⟨by rw [← hR]; exact Nat.le_of_ble_eq_true rfl, by rw [← hR]; exact Nat.le_of_ble_eq_true rfl⟩) ⟨fun a U g mk q => by obtain ⟨q0, q1, q2, qK, q10, q11, q12, q13, q14⟩ := q; exact ⟨q0, q1, q2, jG.calling g mk a qK, q10, q11, q12, q13, q14⟩, fun U hU hW => ⟨rfl, hU, hh.2.1, hG.step hW hU hh.1, hg_r0, jP.nil, (hh.2.2.2.2.2.2.2.1.sub (L1 := [(r0, 173, n0, ca 1, f0)]) [0] rfl), (hh.2.2.2.2.2.2.2.2.sub (L1 := [(jFun, jUN dC dI ca G0 0 us rw)]) [0] rfl), by first | omega | (refine ⟨?_, ?_, ?_, ?_⟩ <;> (first | omega | rfl | assumption | decide | exact Or.inl rfl | exact Or.inr rfl | (simp only; omega)))⟩⟩ rfl rfl hl.1 rfl (lv_room (Nat.le_of_ble_eq_true rfl)) dJ7_copyOfRange_feecc_13 ⟨by rw [hRc]; omega, by rw [hRs]; omega⟩) hh.1 (fun q _ h => h) (fun q h => h) (fun r_3 u_2 t_2 H_2 locs_2 ht_2 hvm_2 hr_3 hb_2 hz_2 hk_2 hS_2 => ?_)
    rw [ht_2] at hb_2
    obtain ⟨qu_2, x_ret_2, m_ret_2, G_2⟩ := u_2
    simp only at hb_2
    obtain ⟨⟨hb_21, hb_22, hb_23, hb_24, hb_25, hb_26⟩, hN_2, hbQ_2, hbK_2, hbE_2⟩ := hb_2
    have hW_2 := hN_2
    have hh_2 : jSt (dC, dI) B base G0 G_2 EJ7_copyOfRange_feeccN s.heap (0 + (1)) (0 + (m_ret_2)) [] [(r0, 173, n0, ca 1, f0)] [] H_2 locs_2 := (hh.callG hb_21 hb_22 hb_23 hb_24 hb_25 hS_2 rfl (L1 := []) [] rfl rfl (M1 := [(r0, 173, n0, ca 1, f0)]) [0] rfl rfl (I1 := []) [] rfl rfl).more hb_26
    have hNn_2 : (jNk [0, 1, 2, 3, 4, 5, 6, 7, 8, 9, 10, 11, 12, 13, 14, 15, 16, 17]) G0 G_2 := (jNk.rf).tr hN_2
    have hg_4 := hb_22 _ _ hg_r0
    have hh_5 := hh_2.addIs hbE_2
    obtain ⟨rfl, hr_3, hr_3n, hr_3p⟩ := hr_3
    try simp only at hr_3p
    obtain ⟨hr_3p_0, hr_3p_1⟩ := hr_3p
    have hkp_6 := hkp.tr hbK_2
    have hgr_2 : G_2 x_ret_2 = some (175, m_ret_2) := by obtain ⟨y9, e9, h9⟩ := hr_3; cases e9; exact h9
    have hsy_2 : s.heap.size ≤ x_ret_2 := Nat.le_trans hh.1.1 hr_3n.le
    obtain ⟨fr_2, hqa_2, hqr_2⟩ := hbQ_2
    have hh_7 := hh_5.moreM (M1 := [(x_ret_2, 175, m_ret_2, ca 1, fr_2)]) (fun q hq => by cases List.mem_singleton.mp hq; exact ⟨hgr_2, (by show 18 ≤ 175; decide), (by show 175 < 1000; decide), hqa_2⟩)
    clear hh_5
    have hsz_8 := hh_7.2.2.2.2.2.1
    have htt_8 := hh_7.2.2.2.2.2.2.1
    refine W.room (fun hrc_8 hrs_8 => ?_)
    refine W.widen (k := LC - s.heap.size) (n := LS - jTot s.heap) (by omega) (by omega) ?_
    rw [hQ]
    exact W.aret (v := .ref x_ret_2) hx hb hr (Or.inr ⟨_, rfl⟩) (Or.inr ⟨_, rfl⟩) (fun t ht hW => ⟨⟨.ref x_ret_2, (qu_2, x_ret_2, m_ret_2, G_2), rfl, ⟨rfl, ⟨_, rfl, hgr_2⟩, ⟨_, rfl, hsy_2⟩, by skip; (try dsimp only); exact ⟨by omega, hr_3p_1⟩⟩, ⟨hh_7.ra (by first | (simp only; omega) | omega) (by first | (simp only; omega) | omega) (M1 := []) [] rfl ht, hNn_2, ⟨_, by rw [ht]; exact (hh_7.2.2.2.2.2.2.2.1 _ (List.mem_of_getElem? (i := 0) rfl)).2.2.2, trivial⟩, by rw [ht]; exact hkp_6, by rw [ht]; exact hh_7.2.2.2.2.2.2.2.2.sub (L1 := [(jFun, jUN dC dI ca G_2 0 qu_2 rw)]) [0] rfl⟩⟩, by rw [ht]; try exact hh_7.1.1, fun q h9 hq => by rw [ht]; try exact hh_7.1.2.1 q h9 hq⟩) hh_7.1.2.2 dJ7_copyOfRange_feecc_16
  · skip
    have c_1' : a1.toInt = 0 := jb_ne_n (rfl) ((by decide)) c_1
    refine lv_iload_n hx hb dJ7_copyOfRange_feecc_4 rfl (lv_at hl 2 rfl) ?_
    refine lv_aload_n hx hb dJ7_copyOfRange_feecc_5 rfl (lv_at hl 0 rfl) ?_
    refine j7_len hx hb hK hh hB173 1 rfl (by decide) hg_r0 (by omega) dJ7_copyOfRange_feecc_6 (fun z_9 hz_9 => ?_)
    refine lv_icmp_eq (tgt := 17) hx hb dJ7_copyOfRange_feecc_7 (by decide) (fun c_10 => ?_) (fun c_10 => ?_)
    · skip
      have c_10' : a2.toInt = z_9.toInt := jb_eq (rfl) (rfl) c_10
      refine lv_aload_n hx hb dJ7_copyOfRange_feecc_17 rfl (lv_at hl 0 rfl) ?_
      have hsz_11 := hh.2.2.2.2.2.1
      have htt_11 := hh.2.2.2.2.2.2.1
      have hsy_11 : s.heap.size ≤ s.heap.size := hh.1.1
      refine j7_cloneR hx hb (by rw [hml]; exact hl.1.symm) hown (htw (.methodLink RJ7 316 ⟨"[I", "clone", "()Ljava/lang/Object;"⟩) (jWr_78 _ (List.mem_of_getElem? (i := 0) rfl))) (htw (.sameMethod "[I" "java/lang/Object" "clone" "()Ljava/lang/Object;") (jWr_78 _ (List.mem_of_getElem? (i := 1) rfl))) (htw (.native ⟨"java/lang/Object", "clone", "()Ljava/lang/Object;"⟩) (jWr_16 _ (List.mem_of_getElem? (i := 11) rfl))) (htw (.instanceMethod ⟨"java/lang/Object", "clone", "()Ljava/lang/Object;"⟩) (jWr_16 _ (List.mem_of_getElem? (i := 12) rfl))) (htw (.selects "[I" ⟨"[I", "clone", "()Ljava/lang/Object;"⟩ ⟨"java/lang/Object", "clone", "()Ljava/lang/Object;"⟩) (jWr_78 _ (List.mem_of_getElem? (i := 2) rfl))) hK8 hK hh hB (show va_at (dC, dI) vwCl (r0, .inl (ca 1, n0, .inl f0)) s.heap from (hh.2.2.2.2.2.2.2.1 _ (List.mem_of_getElem? (i := 0) rfl)).2.2.2) 1 rfl (by rw [← hR]; exact Nat.le_of_ble_eq_true rfl) (by rw [← hR]; exact Nat.le_of_ble_eq_true rfl) (by rw [hRc]; omega) (by rw [hRs]; omega) dJ7_copyOfRange_feecc_18 (fun H_11 hfr_11 hnr_11 hraw_11 hh_11 => ?_)
      have hke_11 : jKe G0 G0 s.heap H_11 := jKe.raw hfr_11
      have hbr_11 : base ≤ s.heap.size := Nat.le_trans hbs hsy_11
      clear hh
      have hkp_12 := hkp.tr hke_11
      refine j7_castR hx hb hown (htw (.classLink RJ7 317 "[I") (jWr_78 _ (List.mem_of_getElem? (i := 3) rfl))) hK hraw_11 1 rfl dJ7_copyOfRange_feecc_21 ?_
      have hsz_13 := hh_11.2.2.2.2.2.1
      have htt_13 := hh_11.2.2.2.2.2.2.1
      refine W.room (fun hrc_13 hrs_13 => ?_)
      refine W.widen (k := LC - s.heap.size) (n := LS - jTot s.heap) (by omega) (by omega) ?_
      rw [hQ]
      have hnr_14 := jUN.row (r := 0) (hh_11.iv 0 rfl) hnr_11 hraw_11
      have hh_15 := hh_11.sub (L1 := []) [] rfl (M1 := [(r0, 173, n0, ca 1, f0)]) [0] rfl (I1 := []) [] rfl
      clear hh_11
      have hle_16 : jLe G0 (va_up G0 s.heap.size (some (175, n0))) := jLe.typ hnr_11
      have hh_16 := hh_15.typ (k := 175) (n := n0) hB hnr_11 hbr_11 hraw_11.lt (jAr.of hB175 hraw_11 (fun _ _ => trivial))
      have hgn_16 : (va_up G0 s.heap.size (some (175, n0))) s.heap.size = some (175, n0) := jUp_self
      have hN_16 : (jNk [0, 1, 2, 3, 4, 5, 6, 7, 8, 9, 10, 11, 12, 13, 14, 15, 16, 17]) G0 (va_up G0 s.heap.size (some (175, n0))) := jNk.new (by decide)
      have hNn_16 : (jNk [0, 1, 2, 3, 4, 5, 6, 7, 8, 9, 10, 11, 12, 13, 14, 15, 16, 17]) G0 (va_up G0 s.heap.size (some (175, n0))) := (jNk.rf).tr hN_16
      have hkp_17 := hkp_12.typn (t := some (175, n0)) hsy_11
      have hh_18 := hh_16.addI (jUN.ie hnr_14)
      clear hh_16
      exact W.aret (v := .ref s.heap.size) hx hb hr (Or.inr ⟨_, rfl⟩) (Or.inr ⟨_, rfl⟩) (fun t ht hW => ⟨⟨.ref s.heap.size, ((jUf us (s.heap.size) (jcL f0 n0 0)), s.heap.size, n0, (va_up G0 s.heap.size (some (175, n0)))), rfl, ⟨rfl, ⟨_, rfl, hgn_16⟩, ⟨_, rfl, hsy_11⟩, by skip; (try dsimp only); refine ⟨by omega, ?_⟩; exact congrArg (jUf us _) (by rw [show (a2.toInt - a1.toInt).toNat = n0 by omega, show a1.toInt = 0 by omega])⟩, ⟨hh_18.ra (by first | (simp only; omega) | omega) (by first | (simp only; omega) | omega) (M1 := []) [] rfl ht, hNn_16, ⟨_, by rw [ht]; exact hraw_11, trivial⟩, by rw [ht]; exact hkp_17, by rw [ht]; exact hh_18.2.2.2.2.2.2.2.2.sub (L1 := [(jFun, jUN dC dI ca (va_up G0 s.heap.size (some (175, n0))) 0 (jUf us (s.heap.size) (jcL f0 n0 0)) rw)]) [0] rfl⟩⟩, by rw [ht]; try exact hh_18.1.1, fun q h9 hq => by rw [ht]; try exact hh_18.1.2.1 q h9 hq⟩) hh_18.1.2.2 dJ7_copyOfRange_feecc_24
    · skip
      have c_10' : a2.toInt ≠ z_9.toInt := jb_eq_n (rfl) (rfl) c_10
      refine lv_aload_n hx hb dJ7_copyOfRange_feecc_10 rfl (lv_at hl 0 rfl) ?_
      refine lv_iload_n hx hb dJ7_copyOfRange_feecc_11 rfl (lv_at hl 1 rfl) ?_
      refine lv_iload_n hx hb dJ7_copyOfRange_feecc_12 rfl (lv_at hl 2 rfl) ?_
      have hsz_19 := hh.2.2.2.2.2.1
      have htt_19 := hh.2.2.2.2.2.2.1
      refine W.room (fun hrc_19 hrs_19 => ?_)
      refine j_callx (A0 := jA base) (H0 := s.heap) (va_runS (As := [.ref r0, .int a1, .int a2]) (rest := []) ⟨hx, hb, hml, hown, hts⟩ (uJ7_copyOfRangeInt_feeccN l dC dI ca base B hB hAp hB173 hB175 G0 s.heap r0 a1 a2 n0 us rw f0 LC LS) (va_cwS 3 hts (jgS (jWr_78 _ (List.mem_of_getElem? (i := 4) rfl)) (jWr_78 _ (List.mem_of_getElem? (i := 5) rfl)) (jWr_16 _ (List.mem_of_getElem? (i := 7) rfl)) (jWr_78 _ (List.mem_of_getElem? (i := 6) rfl))) rfl rfl rfl (by decide +kernel) ⟨by rw [← hR]; exact Nat.le_of_ble_eq_true rfl, by rw [← hR]; exact Nat.le_of_ble_eq_true rfl⟩) ⟨fun a U g mk q => by obtain ⟨q0, q1, q2, qK, q10, q11, q12, q13, q14⟩ := q; exact ⟨q0, q1, q2, jG.calling g mk a qK, q10, q11, q12, q13, q14⟩, fun U hU hW => ⟨rfl, hU, hh.2.1, hG.step hW hU hh.1, hg_r0, jP.nil, (hh.2.2.2.2.2.2.2.1.sub (L1 := [(r0, 173, n0, ca 1, f0)]) [0] rfl), (hh.2.2.2.2.2.2.2.2.sub (L1 := [(jFun, jUN dC dI ca G0 0 us rw)]) [0] rfl), by first | omega | (refine ⟨?_, ?_, ?_, ?_⟩ <;> (first | omega | rfl | assumption | decide | exact Or.inl rfl | exact Or.inr rfl | (simp only; omega)))⟩⟩ rfl rfl hl.1 rfl (lv_room (Nat.le_of_ble_eq_true rfl)) dJ7_copyOfRange_feecc_13 ⟨by rw [hRc]; omega, by rw [hRs]; omega⟩) hh.1 (fun q _ h => h) (fun q h => h) (fun r_20 u_19 t_19 H_19 locs_19 ht_19 hvm_19 hr_20 hb_19 hz_19 hk_19 hS_19 => ?_)
      rw [ht_19] at hb_19
      obtain ⟨qu_19, x_ret_19, m_ret_19, G_19⟩ := u_19
      simp only at hb_19
      obtain ⟨⟨hb_191, hb_192, hb_193, hb_194, hb_195, hb_196⟩, hN_19, hbQ_19, hbK_19, hbE_19⟩ := hb_19
      have hW_19 := hN_19
      have hh_19 : jSt (dC, dI) B base G0 G_19 EJ7_copyOfRange_feeccN s.heap (0 + (1)) (0 + (m_ret_19)) [] [(r0, 173, n0, ca 1, f0)] [] H_19 locs_19 := (hh.callG hb_191 hb_192 hb_193 hb_194 hb_195 hS_19 rfl (L1 := []) [] rfl rfl (M1 := [(r0, 173, n0, ca 1, f0)]) [0] rfl rfl (I1 := []) [] rfl rfl).more hb_196
      have hNn_19 : (jNk [0, 1, 2, 3, 4, 5, 6, 7, 8, 9, 10, 11, 12, 13, 14, 15, 16, 17]) G0 G_19 := (jNk.rf).tr hN_19
      have hg_21 := hb_192 _ _ hg_r0
      have hh_22 := hh_19.addIs hbE_19
      obtain ⟨rfl, hr_20, hr_20n, hr_20p⟩ := hr_20
      try simp only at hr_20p
      obtain ⟨hr_20p_0, hr_20p_1⟩ := hr_20p
      have hkp_23 := hkp.tr hbK_19
      have hgr_19 : G_19 x_ret_19 = some (175, m_ret_19) := by obtain ⟨y9, e9, h9⟩ := hr_20; cases e9; exact h9
      have hsy_19 : s.heap.size ≤ x_ret_19 := Nat.le_trans hh.1.1 hr_20n.le
      obtain ⟨fr_19, hqa_19, hqr_19⟩ := hbQ_19
      have hh_24 := hh_22.moreM (M1 := [(x_ret_19, 175, m_ret_19, ca 1, fr_19)]) (fun q hq => by cases List.mem_singleton.mp hq; exact ⟨hgr_19, (by show 18 ≤ 175; decide), (by show 175 < 1000; decide), hqa_19⟩)
      clear hh_22
      have hsz_25 := hh_24.2.2.2.2.2.1
      have htt_25 := hh_24.2.2.2.2.2.2.1
      refine W.room (fun hrc_25 hrs_25 => ?_)
      refine W.widen (k := LC - s.heap.size) (n := LS - jTot s.heap) (by omega) (by omega) ?_
      rw [hQ]
      exact W.aret (v := .ref x_ret_19) hx hb hr (Or.inr ⟨_, rfl⟩) (Or.inr ⟨_, rfl⟩) (fun t ht hW => ⟨⟨.ref x_ret_19, (qu_19, x_ret_19, m_ret_19, G_19), rfl, ⟨rfl, ⟨_, rfl, hgr_19⟩, ⟨_, rfl, hsy_19⟩, by skip; (try dsimp only); exact ⟨by omega, hr_20p_1⟩⟩, ⟨hh_24.ra (by first | (simp only; omega) | omega) (by first | (simp only; omega) | omega) (M1 := []) [] rfl ht, hNn_19, ⟨_, by rw [ht]; exact (hh_24.2.2.2.2.2.2.2.1 _ (List.mem_of_getElem? (i := 0) rfl)).2.2.2, trivial⟩, by rw [ht]; exact hkp_23, by rw [ht]; exact hh_24.2.2.2.2.2.2.2.2.sub (L1 := [(jFun, jUN dC dI ca G_19 0 qu_19 rw)]) [0] rfl⟩⟩, by rw [ht]; try exact hh_24.1.1, fun q h9 hq => by rw [ht]; try exact hh_24.1.2.1 q h9 hq⟩) hh_24.1.2.2 dJ7_copyOfRange_feecc_16
set_option maxHeartbeats 4000000 in
set_option maxRecDepth 20000 in
theorem uX9_init_N (l : Launch) (dC : Nat → ClassId) (dI : Nat → Nat → Nat) (ca : Nat → ClassId) (base : Nat) (B : jF) (hB : jBok B) (hAp : jAp (dC, dI)) (hB5 : ∀ n G a H, B 5 n G a H ↔ jOb (dC, dI) 5 4 (F5 n G) a H) (hB11 : ∀ n G a H, B 11 n G a H ↔ jOb (dC, dI) 11 9 (F11 n G) a H) (hB101 : ∀ n G a H, B 101 n G a H ↔ jAr (dC, dI) (ca 1) (fun j z => True) n a H) (hB175 : ∀ n G a H, B 175 n G a H ↔ jAr (dC, dI) (ca 1) (fun j z => True) n a H) (hB214 : ∀ n G a H, B 214 n G a H ↔ jAq (dC, dI) (ca 7) (jQg) n G a H) (hB280 : ∀ n G a H, B 280 n G a H ↔ jAr (dC, dI) (ca 1) (fun j z => -1 ≤ z.toInt) n a H) (hB313 : ∀ n G a H, B 313 n G a H ↔ jAq (dC, dI) (ca 8) (jQk 280 80) n G a H) (G0 : jT) (H0 : Heap) (r0 : Nat) (r1 : Nat) (r2 : Nat) (n2 : Nat) (rr : List Int) (us : Nat → List Int) (rw : Nat → List Int) (LC LS : Nat) : Met l yX9_init_ (jw yX9_init_ cX9_init_ 3 none) ({ frames := 1, cells := LC - H0.size, slots := LS - jTot H0, locals := 31 }) (va_Pc [.ref r0, .ref r1, .ref r2] (fun U => U.heap = H0 ∧ jX B base G0 [] H0 ∧ jG dC dI ca base U ∧ jK2 dC dI ca U ∧ jK5 dC dI ca U ∧ jK6 U ∧ G0 r1 = some (11, 0) ∧ G0 r2 = some (175, n2) ∧ va_at (dC, dI) vwCl (r0, .inr (11, [.null, .null, .int 0, .null, .null, .null, .int 0, .null, .null])) H0 ∧ (∀ t, G0 r0 ≠ some t) ∧ base ≤ r0 ∧ jP (dC, dI) G0 H0 [] ∧ jIs (dC, dI) G0 H0 [(jFs11, jSef dC dI G0), (jFun, jUN dC dI ca G0 0 us rw)] ∧ H0.size + 5 ≤ LC ∧ jTot H0 + 0 ≤ LS ∧ n2 ≤ 1500 ∧ (jnE rr → (∀ c ∈ us r2, c ≠ (-1 : Int)) ∧ us r2 ≠ [] ∧ (rw r1).count (-1) < 40 ∧ rr = rw r1 ++ (us r2 ++ [-1]) ∧ jnE (rw r1)))) (va_Qv (S := jT) (fun u => True) (fun u t => jRa (dC, dI) B base G0 u EX9_init_N H0 (5) (0) [] t.heap ∧ (jNk [0, 1, 2, 3, 4, 5, 6, 7, 8, 9, 10, 12, 13, 14, 15, 16, 17, 175]) G0 u ∧ u r0 = some (11, 0) ∧ jKx r0 G0 u H0 t.heap ∧ jIs (dC, dI) u t.heap [(jFs11, jSef dC dI u), (jFun, jUN dC dI ca u 0 us (jUf rw r0 rr))]) (jA base)) (LC - H0.size) (LS - jTot H0) (jA base) := by
  refine Met.ofW (cc := cX9_init_) (maxL := 3) (ret := none) (by decide) rfl ?_
  intro p e s m args below meth c s₁ Bd hml hv
  obtain ⟨rfl, hH0, hX, hG, hK2, hK5, hK6, hg_r1, hg_r2, hraw0, hnr0, hbr0, hP0, hI0, hLC0, hLS0, hp0, hp1⟩ := hv
  have hK := hG.1
  have hx := Bd.exec
  have hb := Bd.bytes
  have hr := Bd.returns
  have hts := atoms_spec (ws := (jw yX9_init_ cX9_init_ 3 none)) Bd.pre
  have htw : ∀ w ∈ jWl, w.before _ s = true := fun w h => hts w (List.mem_cons_of_mem _ h)
  have hown : s.vm.findClass RX9 = some m.cls := findClass_of_methodNamed Bd.named
  have hlocks := Bd.notSynchronized
  obtain ⟨Q, hQ⟩ : ∃ Q, Q = MQ below (va_Qv (S := jT) (fun u => True) (fun u t => jRa (dC, dI) B base G0 u EX9_init_N H0 (5) (0) [] t.heap ∧ (jNk [0, 1, 2, 3, 4, 5, 6, 7, 8, 9, 10, 12, 13, 14, 15, 16, 17, 175]) G0 u ∧ u r0 = some (11, 0) ∧ jKx r0 G0 u H0 t.heap ∧ jIs (dC, dI) u t.heap [(jFs11, jSef dC dI u), (jFun, jUN dC dI ca u 0 us (jUf rw r0 rr))]) (jA base)) ([.ref r0, .ref r1, .ref r2] : List Value).toArray s (LC - H0.size) (LS - jTot H0) (jA base) := ⟨_, rfl⟩
  rw [← hQ]
  have hl := lv_entry ([.ref r0, .ref r1, .ref r2]) (n := 3) (Nat.le_of_ble_eq_true rfl)
  rw [lg_entry_eq]
  generalize (lg_sl ([.ref r0, .ref r1, .ref r2]) ++ List.replicate (3 - (lg_sl ([.ref r0, .ref r1, .ref r2])).length) Slot.unset).toArray = ls at hl ⊢
  have hl : lv_has ls 3 [(0, .ref r0), (1, .ref r1), (2, .ref r2)] := hl
  generalize hR : (headSpec (jw yX9_init_ cX9_init_ 3 none) ({ frames := 1, cells := LC - H0.size, slots := LS - jTot H0, locals := 31 })).room = R
  subst hH0
  have hh : jSt (dC, dI) B base G0 G0 EX9_init_N s.heap 0 0 [] [] [(jFs11, jSef dC dI G0), (jFun, jUN dC dI ca G0 0 us rw)] s.heap [] := jSt.start hX hP0 jMc.nil hI0
  clear hX hP0
  have hkm1 : ((-1) : Int32).toInt = (-1) := by decide
  have hk0 : (0 : Int32).toInt = 0 := by decide
  have hk1 : (1 : Int32).toInt = 1 := by decide
  have hly_11_0 := htw (u_lay RX9 TX9 0) (jWc_wsX90 _ (u_in_lay (by decide)))
  have hly_11_1 := htw (u_lay RX9 TX9 1) (jWc_wsX90 _ (u_in_lay (by decide)))
  have hly_11_3 := htw (u_lay RX9 TX9 3) (jWc_wsX90 _ (u_in_lay (by decide)))
  have hly_11_4 := htw (u_lay RX9 TX9 4) (jWc_wsX90 _ (u_in_lay (by decide)))
  have hly_11_5 := htw (u_lay RX9 TX9 5) (jWc_wsX90 _ (u_in_lay (by decide)))
  have hly_11_6 := htw (u_lay RX9 TX9 6) (jWc_wsX90 _ (u_in_lay (by decide)))
  have hly_11_7 := htw (u_lay RX9 TX9 7) (jWc_wsX90 _ (u_in_lay (by decide)))
  have hly_11_8 := htw (u_lay RX9 TX9 8) (jWc_wsX90 _ (u_in_lay (by decide)))
  have hlk_9 := (htw (.fieldLink RX9 9 "ProofServer$State" "symbols" "[I") (jWr_8 _ (List.mem_of_getElem? (i := 17) rfl)))
  have hlk_15 := (htw (.fieldLink RX9 15 "ProofServer$State" "factNames" "[I") (jWr_8 _ (List.mem_of_getElem? (i := 18) rfl)))
  have hlk_19 := (htw (.fieldLink RX9 19 "ProofServer$State" "facts" "[[I") (jWr_8 _ (List.mem_of_getElem? (i := 20) rfl)))
  have hlk_23 := (htw (.fieldLink RX9 23 "ProofServer$State" "lemma" "I") (jWr_8 _ (List.mem_of_getElem? (i := 21) rfl)))
  have hlk_27 := (htw (.fieldLink RX9 27 "ProofServer$State" "statement" "[I") (jWr_8 _ (List.mem_of_getElem? (i := 22) rfl)))
  have hlk_32 := (htw (.fieldLink RX9 32 "ProofServer$State" "goals" "[LProofServer$Goal;") (jWr_9 _ (List.mem_of_getElem? (i := 0) rfl)))
  have hlk_36 := (htw (.fieldLink RX9 36 "ProofServer$State" "ahead" "LProofServer$State;") (jWr_9 _ (List.mem_of_getElem? (i := 1) rfl)))
  have hlk_40 := (htw (.fieldLink RX9 40 "ProofServer$State" "units" "[I") (jWr_9 _ (List.mem_of_getElem? (i := 2) rfl)))
  have hbs : base ≤ s.heap.size := Nat.le_of_lt (Nat.lt_of_le_of_lt hbr0 hraw0.lt)
  have hRc : R.cells = LC - s.heap.size := by rw [← hR]; rfl
  have hRs : R.slots = LS - jTot s.heap := by rw [← hR]; rfl
  have hin2 : meth.name = "<init>" := (name_of_methodNamed Bd.named Bd.method).1
  have hkp : jKx r0 G0 G0 s.heap s.heap := jKx.rf
  refine lv_aload_n hx hb dX9_init__0 rfl (lv_at hl 0 rfl) ?_
  refine W.objInit hx hb hown (htw (.methodLink RX9 3 objectInit) (jWr_8 _ (List.mem_of_getElem? (i := 16) rfl))) (htw (.instanceMethod objectInit) (jWr_1 _ (List.mem_of_getElem? (i := 10) rfl))) (htw (.code objectInit ⟨#[0xb1]⟩ 1 none) (jWr_1 _ (List.mem_of_getElem? (i := 11) rfl))) rfl (by rw [hml]; exact hl.1) rfl dX9_init__1 (by rw [← hR]; exact Nat.le_of_ble_eq_true rfl) (by rw [← hR]; exact Nat.le_of_ble_eq_true rfl) ?_
  refine W.eq (g2 := F0 m 4 ls []) rfl ?_
  refine lv_aload_n hx hb dX9_init__4 rfl (lv_at hl 0 rfl) ?_
  refine lv_iconst (v := 0) hx hb dX9_init__5 (by decide) ?_
  have hsz_1 := hh.2.2.2.2.2.1
  have htt_1 := hh.2.2.2.2.2.2.1
  refine j7_newiK hx hb hK hh hB (atype := .int) (ty := .int) (htw (.arrayClass .int) (jWr_3 _ (List.mem_of_getElem? (i := 20) rfl))) rfl rfl (fun _ h => h) hB101 1 rfl (by decide) (by decide) hbs (x := 0) (by decide) (by omega) (fun j => by first | trivial | decide | rfl | exact Or.inl rfl | exact Or.inr (Or.inl (by decide)) | (refine ⟨?_, ?_⟩ <;> decide)) (by rw [hRc]; omega) (by rw [hRs]; omega) dX9_init__6 (fun H_1 hfr_1 hh_1 => ?_)
  have hh_1 : jSt (dC, dI) B base G0 (va_up G0 s.heap.size (some (101, 0))) EX9_init_N s.heap (0 + 1) (0 + 0) [] [] [(jFs11, jSef dC dI G0), (jFun, jUN dC dI ca G0 0 us rw)] H_1 [] := hh_1
  have hM_1 : jNk [11] G0 (va_up G0 s.heap.size (some (101, 0))) := jNk.new (by decide)
  have hW_1 : jNk [0, 1, 2, 3, 4, 5, 6, 7, 8, 9, 10, 11, 12, 13, 14, 15, 16, 17, 175] G0 (va_up G0 s.heap.size (some (101, 0))) := jNk.new (by decide)
  have hN_1 : (jNk [0, 1, 2, 3, 4, 5, 6, 7, 8, 9, 10, 12, 13, 14, 15, 16, 17, 175]) G0 (va_up G0 s.heap.size (some (101, 0))) := jNk.new (by decide)
  have hgn_1 : (va_up G0 s.heap.size (some (101, 0))) s.heap.size = some (101, 0) := jUp_self
  have hle_1 : jLe G0 (va_up G0 s.heap.size (some (101, 0))) := jLe.new hh.2.1.fresh
  have hke_1 : jKe G0 (va_up G0 s.heap.size (some (101, 0))) s.heap H_1 := jKe.new hfr_1
  have hsy_1 : s.heap.size ≤ s.heap.size := hh.1.1
  generalize (va_up G0 s.heap.size (some (101, 0))) = G_1 at hN_1 hgn_1 hle_1 hke_1 hh_1 hM_1 hW_1
  clear hh
  have hNn_1 : (jNk [0, 1, 2, 3, 4, 5, 6, 7, 8, 9, 10, 12, 13, 14, 15, 16, 17, 175]) G0 G_1 := (jNk.rf).tr hN_1
  have hg_2 := hle_1 _ _ hg_r1
  have hg_3 := hle_1 _ _ hg_r2
  have hkp_4 := hkp.tr hke_1
  have hraw_5n := hke_1.nr hraw0.lt hnr0
  have hraw_5 := hraw0.kept (hke_1.1 _ hraw0.lt)
  have hd_6 := jSef.grow (hh_1.iv 0 rfl) hle_1 hM_1 (by decide)
  have hh_7 := hh_1.sub (L1 := []) [] rfl (M1 := []) [] rfl (I1 := [(jFun, jUN dC dI ca G0 0 us rw)]) [1] rfl
  clear hh_1
  have hh_8 := hh_7.addI (jSef.ie hd_6)
  clear hh_7
  have hd_9 := jUN.grow (r := 0) (hh_8.iv 1 rfl) hle_1 hW_1 (by decide) (by decide)
  have hh_10 := hh_8.sub (L1 := []) [] rfl (M1 := []) [] rfl (I1 := [(jFs11, jSef dC dI G_1)]) [0] rfl
  clear hh_8
  have hh_11 := hh_10.addI (jUN.ie hd_9)
  clear hh_10
  refine j7_putR hx hb hown hK hh_11 hB hAp hraw_5 hraw_5n hbr0 (C := RX9) (T := TX9) (N := 9) rfl (i := 3) (by decide) (Nat.le_of_ble_eq_true rfl) hly_11_3 rfl hlk_9 (ty := (.array .int)) (v := .ref s.heap.size) (by decide +kernel) rfl rfl dX9_init__8 (fun H_12 locs_12 hraw_12 hr_12 hh_12 => ?_)
  have hraw_12 : va_at (dC, dI) vwCl (r0, .inr (11, [.null, .null, .int 0, .ref s.heap.size, .null, .null, .int 0, .null, .null])) H_12 := hraw_12
  have hkp_13 := hkp_4.put hr_12
  clear hh_11
  refine lv_aload_n hx hb dX9_init__11 rfl (lv_at hl 0 rfl) ?_
  refine lv_iconst (v := 0) hx hb dX9_init__12 (by decide) ?_
  have hsz_14 := hh_12.2.2.2.2.2.1
  have htt_14 := hh_12.2.2.2.2.2.2.1
  refine j7_newiK hx hb hK hh_12 hB (atype := .int) (ty := .int) (htw (.arrayClass .int) (jWr_3 _ (List.mem_of_getElem? (i := 20) rfl))) rfl rfl (fun _ h => h) hB101 1 rfl (by decide) (by decide) hbs (x := 0) (by decide) (by omega) (fun j => by first | trivial | decide | rfl | exact Or.inl rfl | exact Or.inr (Or.inl (by decide)) | (refine ⟨?_, ?_⟩ <;> decide)) (by rw [hRc]; omega) (by rw [hRs]; omega) dX9_init__13 (fun H_14 hfr_14 hh_14 => ?_)
  have hh_14 : jSt (dC, dI) B base G0 (va_up G_1 H_12.size (some (101, 0))) EX9_init_N s.heap ((0 + 1) + 1) ((0 + 0) + 0) [] [] [(jFun, jUN dC dI ca G_1 0 us rw), (jFs11, jSef dC dI G_1)] H_14 locs_12 := hh_14
  have hM_14 : jNk [11] G_1 (va_up G_1 H_12.size (some (101, 0))) := jNk.new (by decide)
  have hW_14 : jNk [0, 1, 2, 3, 4, 5, 6, 7, 8, 9, 10, 11, 12, 13, 14, 15, 16, 17, 175] G_1 (va_up G_1 H_12.size (some (101, 0))) := jNk.new (by decide)
  have hN_14 : (jNk [0, 1, 2, 3, 4, 5, 6, 7, 8, 9, 10, 12, 13, 14, 15, 16, 17, 175]) G_1 (va_up G_1 H_12.size (some (101, 0))) := jNk.new (by decide)
  have hgn_14 : (va_up G_1 H_12.size (some (101, 0))) H_12.size = some (101, 0) := jUp_self
  have hle_14 : jLe G_1 (va_up G_1 H_12.size (some (101, 0))) := jLe.new hh_12.2.1.fresh
  have hke_14 : jKe G_1 (va_up G_1 H_12.size (some (101, 0))) H_12 H_14 := jKe.new hfr_14
  have hsy_14 : s.heap.size ≤ H_12.size := hh_12.1.1
  generalize (va_up G_1 H_12.size (some (101, 0))) = G_14 at hN_14 hgn_14 hle_14 hke_14 hh_14 hM_14 hW_14
  clear hh_12
  have hNn_14 : (jNk [0, 1, 2, 3, 4, 5, 6, 7, 8, 9, 10, 12, 13, 14, 15, 16, 17, 175]) G0 G_14 := (hNn_1).tr hN_14
  have hg_15 := hle_14 _ _ hg_2
  have hg_16 := hle_14 _ _ hg_3
  have hkp_17 := hkp_13.tr hke_14
  have hraw_18n := hke_14.nr hraw_12.lt hraw_5n
  have hraw_18 := hraw_12.kept (hke_14.1 _ hraw_12.lt)
  have hd_19 := jUN.grow (r := 0) (hh_14.iv 0 rfl) hle_14 hW_14 (by decide) (by decide)
  have hh_20 := hh_14.sub (L1 := []) [] rfl (M1 := []) [] rfl (I1 := [(jFs11, jSef dC dI G_1)]) [1] rfl
  clear hh_14
  have hh_21 := hh_20.addI (jUN.ie hd_19)
  clear hh_20
  have hd_22 := jSef.grow (hh_21.iv 1 rfl) hle_14 hM_14 (by decide)
  have hh_23 := hh_21.sub (L1 := []) [] rfl (M1 := []) [] rfl (I1 := [(jFun, jUN dC dI ca G_14 0 us rw)]) [0] rfl
  clear hh_21
  have hh_24 := hh_23.addI (jSef.ie hd_22)
  clear hh_23
  refine j7_putR hx hb hown hK hh_24 hB hAp hraw_18 hraw_18n hbr0 (C := RX9) (T := TX9) (N := 9) rfl (i := 4) (by decide) (Nat.le_of_ble_eq_true rfl) hly_11_4 rfl hlk_15 (ty := (.array .int)) (v := .ref H_12.size) (by decide +kernel) rfl rfl dX9_init__15 (fun H_25 locs_25 hraw_25 hr_25 hh_25 => ?_)
  have hraw_25 : va_at (dC, dI) vwCl (r0, .inr (11, [.null, .null, .int 0, .ref s.heap.size, .ref H_12.size, .null, .int 0, .null, .null])) H_25 := hraw_25
  have hkp_26 := hkp_17.put hr_25
  clear hh_24
  refine lv_aload_n hx hb dX9_init__18 rfl (lv_at hl 0 rfl) ?_
  refine lv_iconst (v := 0) hx hb dX9_init__19 (by decide) ?_
  have hsz_27 := hh_25.2.2.2.2.2.1
  have htt_27 := hh_25.2.2.2.2.2.2.1
  have hsy_27 : s.heap.size ≤ H_25.size := hh_25.1.1
  refine j7_newa0 hx hb hown (show (Cond.classLink RX9 18 (FieldType.array .int).toString).before _ s = true from htw (.classLink RX9 18 "[I") (jWr_8 _ (List.mem_of_getElem? (i := 19) rfl))) hK5 hh_25 hB hB313 (by decide) hbs (by decide) (by rw [hRc]; omega) (by rw [hRs]; omega) dX9_init__20 (fun H_27 hfr_27 hh_27 => ?_)
  have hh_27 : jSt (dC, dI) B base G0 (va_up G_14 H_25.size (some (313, 0))) EX9_init_N s.heap (((0 + 1) + 1) + 1) (((0 + 0) + 0) + 0) [] [] [(jFs11, jSef dC dI G_14), (jFun, jUN dC dI ca G_14 0 us rw)] H_27 locs_25 := hh_27
  have hM_27 : jNk [11] G_14 (va_up G_14 H_25.size (some (313, 0))) := jNk.new (by decide)
  have hW_27 : jNk [0, 1, 2, 3, 4, 5, 6, 7, 8, 9, 10, 11, 12, 13, 14, 15, 16, 17, 175] G_14 (va_up G_14 H_25.size (some (313, 0))) := jNk.new (by decide)
  have hN_27 : (jNk [0, 1, 2, 3, 4, 5, 6, 7, 8, 9, 10, 12, 13, 14, 15, 16, 17, 175]) G_14 (va_up G_14 H_25.size (some (313, 0))) := jNk.new (by decide)
  have hgn_27 : (va_up G_14 H_25.size (some (313, 0))) H_25.size = some (313, 0) := jUp_self
  have hle_27 : jLe G_14 (va_up G_14 H_25.size (some (313, 0))) := jLe.new hh_25.2.1.fresh
  have hke_27 : jKe G_14 (va_up G_14 H_25.size (some (313, 0))) H_25 H_27 := jKe.new hfr_27
  have hsy_27 : s.heap.size ≤ H_25.size := hh_25.1.1
  generalize (va_up G_14 H_25.size (some (313, 0))) = G_27 at hN_27 hgn_27 hle_27 hke_27 hh_27 hM_27 hW_27
  clear hh_25
  have hNn_27 : (jNk [0, 1, 2, 3, 4, 5, 6, 7, 8, 9, 10, 12, 13, 14, 15, 16, 17, 175]) G0 G_27 := (hNn_14).tr hN_27
  have hg_28 := hle_27 _ _ hg_15
  have hg_29 := hle_27 _ _ hg_16
  have hkp_30 := hkp_26.tr hke_27
  have hraw_31n := hke_27.nr hraw_25.lt hraw_18n
  have hraw_31 := hraw_25.kept (hke_27.1 _ hraw_25.lt)
  have hd_32 := jSef.grow (hh_27.iv 0 rfl) hle_27 hM_27 (by decide)
  have hh_33 := hh_27.sub (L1 := []) [] rfl (M1 := []) [] rfl (I1 := [(jFun, jUN dC dI ca G_14 0 us rw)]) [1] rfl
  clear hh_27
  have hh_34 := hh_33.addI (jSef.ie hd_32)
  clear hh_33
  have hd_35 := jUN.grow (r := 0) (hh_34.iv 1 rfl) hle_27 hW_27 (by decide) (by decide)
  have hh_36 := hh_34.sub (L1 := []) [] rfl (M1 := []) [] rfl (I1 := [(jFs11, jSef dC dI G_27)]) [0] rfl
  clear hh_34
  have hh_37 := hh_36.addI (jUN.ie hd_35)
  clear hh_36
  refine j7_putR hx hb hown hK hh_37 hB hAp hraw_31 hraw_31n hbr0 (C := RX9) (T := TX9) (N := 9) rfl (i := 5) (by decide) (Nat.le_of_ble_eq_true rfl) hly_11_5 rfl hlk_19 (ty := (.array (.array .int))) (v := .ref H_25.size) (by decide +kernel) rfl rfl dX9_init__23 (fun H_38 locs_38 hraw_38 hr_38 hh_38 => ?_)
  have hraw_38 : va_at (dC, dI) vwCl (r0, .inr (11, [.null, .null, .int 0, .ref s.heap.size, .ref H_12.size, .ref H_25.size, .int 0, .null, .null])) H_38 := hraw_38
  have hkp_39 := hkp_30.put hr_38
  clear hh_37
  refine lv_aload_n hx hb dX9_init__26 rfl (lv_at hl 0 rfl) ?_
  refine lv_iconst (v := (-1)) hx hb dX9_init__27 (by decide) ?_
  refine j7_putR hx hb hown hK hh_38 hB hAp hraw_38 hraw_31n hbr0 (C := RX9) (T := TX9) (N := 9) rfl (i := 6) (by decide) (Nat.le_of_ble_eq_true rfl) hly_11_6 rfl hlk_23 (ty := .int) (v := .int (-1)) (by decide +kernel) rfl rfl dX9_init__28 (fun H_40 locs_40 hraw_40 hr_40 hh_40 => ?_)
  have hraw_40 : va_at (dC, dI) vwCl (r0, .inr (11, [.null, .null, .int 0, .ref s.heap.size, .ref H_12.size, .ref H_25.size, .int (-1), .null, .null])) H_40 := hraw_40
  have hkp_41 := hkp_39.put hr_40
  clear hh_38
  refine lv_aload_n hx hb dX9_init__31 rfl (lv_at hl 0 rfl) ?_
  refine lv_iconst (v := 0) hx hb dX9_init__32 (by decide) ?_
  have hsz_42 := hh_40.2.2.2.2.2.1
  have htt_42 := hh_40.2.2.2.2.2.2.1
  refine j7_newiK hx hb hK hh_40 hB (atype := .int) (ty := .int) (htw (.arrayClass .int) (jWr_3 _ (List.mem_of_getElem? (i := 20) rfl))) rfl rfl (fun _ h => h) hB280 1 rfl (by decide) (by decide) hbs (x := 0) (by decide) (by omega) (fun j => by first | trivial | decide | rfl | exact Or.inl rfl | exact Or.inr (Or.inl (by decide)) | (refine ⟨?_, ?_⟩ <;> decide)) (by rw [hRc]; omega) (by rw [hRs]; omega) dX9_init__33 (fun H_42 hfr_42 hh_42 => ?_)
  have hh_42 : jSt (dC, dI) B base G0 (va_up G_27 H_40.size (some (280, 0))) EX9_init_N s.heap ((((0 + 1) + 1) + 1) + 1) ((((0 + 0) + 0) + 0) + 0) [] [] [(jFun, jUN dC dI ca G_27 0 us rw), (jFs11, jSef dC dI G_27)] H_42 locs_40 := hh_42
  have hM_42 : jNk [11] G_27 (va_up G_27 H_40.size (some (280, 0))) := jNk.new (by decide)
  have hW_42 : jNk [0, 1, 2, 3, 4, 5, 6, 7, 8, 9, 10, 11, 12, 13, 14, 15, 16, 17, 175] G_27 (va_up G_27 H_40.size (some (280, 0))) := jNk.new (by decide)
  have hN_42 : (jNk [0, 1, 2, 3, 4, 5, 6, 7, 8, 9, 10, 12, 13, 14, 15, 16, 17, 175]) G_27 (va_up G_27 H_40.size (some (280, 0))) := jNk.new (by decide)
  have hgn_42 : (va_up G_27 H_40.size (some (280, 0))) H_40.size = some (280, 0) := jUp_self
  have hle_42 : jLe G_27 (va_up G_27 H_40.size (some (280, 0))) := jLe.new hh_40.2.1.fresh
  have hke_42 : jKe G_27 (va_up G_27 H_40.size (some (280, 0))) H_40 H_42 := jKe.new hfr_42
  have hsy_42 : s.heap.size ≤ H_40.size := hh_40.1.1
  generalize (va_up G_27 H_40.size (some (280, 0))) = G_42 at hN_42 hgn_42 hle_42 hke_42 hh_42 hM_42 hW_42
  clear hh_40
  have hNn_42 : (jNk [0, 1, 2, 3, 4, 5, 6, 7, 8, 9, 10, 12, 13, 14, 15, 16, 17, 175]) G0 G_42 := (hNn_27).tr hN_42
  have hg_43 := hle_42 _ _ hg_28
  have hg_44 := hle_42 _ _ hg_29
  have hkp_45 := hkp_41.tr hke_42
  have hraw_46n := hke_42.nr hraw_40.lt hraw_31n
  have hraw_46 := hraw_40.kept (hke_42.1 _ hraw_40.lt)
  have hd_47 := jUN.grow (r := 0) (hh_42.iv 0 rfl) hle_42 hW_42 (by decide) (by decide)
  have hh_48 := hh_42.sub (L1 := []) [] rfl (M1 := []) [] rfl (I1 := [(jFs11, jSef dC dI G_27)]) [1] rfl
  clear hh_42
  have hh_49 := hh_48.addI (jUN.ie hd_47)
  clear hh_48
  have hd_50 := jSef.grow (hh_49.iv 1 rfl) hle_42 hM_42 (by decide)
  have hh_51 := hh_49.sub (L1 := []) [] rfl (M1 := []) [] rfl (I1 := [(jFun, jUN dC dI ca G_42 0 us rw)]) [0] rfl
  clear hh_49
  have hh_52 := hh_51.addI (jSef.ie hd_50)
  clear hh_51
  refine j7_putR hx hb hown hK hh_52 hB hAp hraw_46 hraw_46n hbr0 (C := RX9) (T := TX9) (N := 9) rfl (i := 7) (by decide) (Nat.le_of_ble_eq_true rfl) hly_11_7 rfl hlk_27 (ty := (.array .int)) (v := .ref H_40.size) (by decide +kernel) rfl rfl dX9_init__35 (fun H_53 locs_53 hraw_53 hr_53 hh_53 => ?_)
  have hraw_53 : va_at (dC, dI) vwCl (r0, .inr (11, [.null, .null, .int 0, .ref s.heap.size, .ref H_12.size, .ref H_25.size, .int (-1), .ref H_40.size, .null])) H_53 := hraw_53
  have hkp_54 := hkp_45.put hr_53
  clear hh_52
  refine lv_aload_n hx hb dX9_init__38 rfl (lv_at hl 0 rfl) ?_
  refine lv_iconst (v := 0) hx hb dX9_init__39 (by decide) ?_
  have hsz_55 := hh_53.2.2.2.2.2.1
  have htt_55 := hh_53.2.2.2.2.2.2.1
  have hsy_55 : s.heap.size ≤ H_53.size := hh_53.1.1
  refine j7_newq0 hx hb hown (htw (.classLink RX9 30 RX3) (jWr_8 _ (List.mem_of_getElem? (i := 23) rfl))) hK6.2.2.2 hK2 hh_53 hB hB214 3 rfl (by decide) hbs (by decide) (by rw [hRc]; omega) (by rw [hRs]; omega) dX9_init__40 (fun H_55 hfr_55 hh_55 => ?_)
  have hh_55 : jSt (dC, dI) B base G0 (va_up G_42 H_53.size (some (214, 0))) EX9_init_N s.heap (((((0 + 1) + 1) + 1) + 1) + 1) (((((0 + 0) + 0) + 0) + 0) + 0) [] [] [(jFs11, jSef dC dI G_42), (jFun, jUN dC dI ca G_42 0 us rw)] H_55 locs_53 := hh_55
  have hM_55 : jNk [11] G_42 (va_up G_42 H_53.size (some (214, 0))) := jNk.new (by decide)
  have hW_55 : jNk [0, 1, 2, 3, 4, 5, 6, 7, 8, 9, 10, 11, 12, 13, 14, 15, 16, 17, 175] G_42 (va_up G_42 H_53.size (some (214, 0))) := jNk.new (by decide)
  have hN_55 : (jNk [0, 1, 2, 3, 4, 5, 6, 7, 8, 9, 10, 12, 13, 14, 15, 16, 17, 175]) G_42 (va_up G_42 H_53.size (some (214, 0))) := jNk.new (by decide)
  have hgn_55 : (va_up G_42 H_53.size (some (214, 0))) H_53.size = some (214, 0) := jUp_self
  have hle_55 : jLe G_42 (va_up G_42 H_53.size (some (214, 0))) := jLe.new hh_53.2.1.fresh
  have hke_55 : jKe G_42 (va_up G_42 H_53.size (some (214, 0))) H_53 H_55 := jKe.new hfr_55
  have hsy_55 : s.heap.size ≤ H_53.size := hh_53.1.1
  generalize (va_up G_42 H_53.size (some (214, 0))) = G_55 at hN_55 hgn_55 hle_55 hke_55 hh_55 hM_55 hW_55
  clear hh_53
  have hNn_55 : (jNk [0, 1, 2, 3, 4, 5, 6, 7, 8, 9, 10, 12, 13, 14, 15, 16, 17, 175]) G0 G_55 := (hNn_42).tr hN_55
  have hg_56 := hle_55 _ _ hg_43
  have hg_57 := hle_55 _ _ hg_44
  have hkp_58 := hkp_54.tr hke_55
  have hraw_59n := hke_55.nr hraw_53.lt hraw_46n
  have hraw_59 := hraw_53.kept (hke_55.1 _ hraw_53.lt)
  have hd_60 := jSef.grow (hh_55.iv 0 rfl) hle_55 hM_55 (by decide)
  have hh_61 := hh_55.sub (L1 := []) [] rfl (M1 := []) [] rfl (I1 := [(jFun, jUN dC dI ca G_42 0 us rw)]) [1] rfl
  clear hh_55
  have hh_62 := hh_61.addI (jSef.ie hd_60)
  clear hh_61
  have hd_63 := jUN.grow (r := 0) (hh_62.iv 1 rfl) hle_55 hW_55 (by decide) (by decide)
  have hh_64 := hh_62.sub (L1 := []) [] rfl (M1 := []) [] rfl (I1 := [(jFs11, jSef dC dI G_55)]) [0] rfl
  clear hh_62
  have hh_65 := hh_64.addI (jUN.ie hd_63)
  clear hh_64
  refine j7_putR hx hb hown hK hh_65 hB hAp hraw_59 hraw_59n hbr0 (C := RX9) (T := TX9) (N := 9) rfl (i := 8) (by decide) (Nat.le_of_ble_eq_true rfl) hly_11_8 rfl hlk_32 (ty := (.array (.object "ProofServer$Goal"))) (v := .ref H_53.size) (by decide +kernel) rfl rfl dX9_init__43 (fun H_66 locs_66 hraw_66 hr_66 hh_66 => ?_)
  have hraw_66 : va_at (dC, dI) vwCl (r0, .inr (11, [.null, .null, .int 0, .ref s.heap.size, .ref H_12.size, .ref H_25.size, .int (-1), .ref H_40.size, .ref H_53.size])) H_66 := hraw_66
  have hkp_67 := hkp_58.put hr_66
  clear hh_65
  refine lv_aload_n hx hb dX9_init__46 rfl (lv_at hl 0 rfl) ?_
  refine lv_aload_n hx hb dX9_init__47 rfl (lv_at hl 1 rfl) ?_
  refine j7_putRF hx hb hown hK hh_66 hB hAp hraw_66 hraw_59n hbr0 (C := RX9) (T := TX9) (N := 9) rfl (i := 0) (by decide) (Nat.le_of_ble_eq_true rfl) hly_11_0 rfl hin2 rfl hlk_36 (ty := (.object "ProofServer$State")) (v := .ref r1) (by decide +kernel) rfl rfl dX9_init__48 (fun H_68 locs_68 hraw_68 hr_68 hh_68 => ?_)
  have hraw_68 : va_at (dC, dI) vwCl (r0, .inr (11, [.ref r1, .null, .int 0, .ref s.heap.size, .ref H_12.size, .ref H_25.size, .int (-1), .ref H_40.size, .ref H_53.size])) H_68 := hraw_68
  have hkp_69 := hkp_67.put hr_68
  clear hh_66
  refine lv_aload_n hx hb dX9_init__51 rfl (lv_at hl 0 rfl) ?_
  refine lv_aload_n hx hb dX9_init__52 rfl (lv_at hl 2 rfl) ?_
  refine j7_putRF hx hb hown hK hh_68 hB hAp hraw_68 hraw_59n hbr0 (C := RX9) (T := TX9) (N := 9) rfl (i := 1) (by decide) (Nat.le_of_ble_eq_true rfl) hly_11_1 rfl hin2 rfl hlk_40 (ty := (.array .int)) (v := .ref r2) (by decide +kernel) rfl rfl dX9_init__53 (fun H_70 locs_70 hraw_70 hr_70 hh_70 => ?_)
  have hraw_70 : va_at (dC, dI) vwCl (r0, .inr (11, [.ref r1, .ref r2, .int 0, .ref s.heap.size, .ref H_12.size, .ref H_25.size, .int (-1), .ref H_40.size, .ref H_53.size])) H_70 := hraw_70
  have hkp_71 := hkp_69.put hr_70
  clear hh_68
  obtain ⟨sx_72, sy_72, sm_72, hs1_72, hs2_72, hg_sx_72, hg_sy_72, hsm_72⟩ := (hh_70.iv 1 rfl) _ hg_56
  have hh_73 := hh_70.more (P1 := [(r1, 11, 4, .ref sx_72), (r1, 11, 5, .ref sy_72)]) (jP.cons hg_56 hs1_72 (jP.cons hg_56 hs2_72 jP.nil))
  clear hh_70 hs1_72 hs2_72
  refine lv_aload_n hx hb dX9_init__56 rfl (lv_at hl 0 rfl) ?_
  refine lv_aload_n hx hb dX9_init__57 rfl (lv_at hl 1 rfl) ?_
  obtain ⟨v_74, hv_74, hh_75⟩ := hh_73.pin (C := RX9) (T := TX9) (N := 9) hB11 rfl (by decide) hg_56 (i := 3) (by decide) rfl
  clear hh_73
  obtain ⟨symbols_76, nsymbols_76, rfl, hg_symbols_76, hn_symbols_76⟩ := hv_74
  refine j7_read hx hb hown hK (C := RX9) (T := TX9) (N := 9) rfl hly_11_3 hlk_9 (hh_75.at 0 rfl) dX9_init__58 ?_
  refine j7_putR hx hb hown hK hh_75 hB hAp hraw_70 hraw_59n hbr0 (C := RX9) (T := TX9) (N := 9) rfl (i := 3) (by decide) (Nat.le_of_ble_eq_true rfl) hly_11_3 rfl hlk_9 (ty := (.array .int)) (v := .ref symbols_76) (by decide +kernel) rfl rfl dX9_init__61 (fun H_77 locs_77 hraw_77 hr_77 hh_77 => ?_)
  have hraw_77 : va_at (dC, dI) vwCl (r0, .inr (11, [.ref r1, .ref r2, .int 0, .ref symbols_76, .ref H_12.size, .ref H_25.size, .int (-1), .ref H_40.size, .ref H_53.size])) H_77 := hraw_77
  have hkp_78 := hkp_71.put hr_77
  clear hh_75
  refine lv_aload_n hx hb dX9_init__64 rfl (lv_at hl 0 rfl) ?_
  refine lv_aload_n hx hb dX9_init__65 rfl (lv_at hl 1 rfl) ?_
  refine j7_read hx hb hown hK (C := RX9) (T := TX9) (N := 9) rfl hly_11_4 hlk_15 (hh_77.at 1 rfl) dX9_init__66 ?_
  refine j7_putR hx hb hown hK hh_77 hB hAp hraw_77 hraw_59n hbr0 (C := RX9) (T := TX9) (N := 9) rfl (i := 4) (by decide) (Nat.le_of_ble_eq_true rfl) hly_11_4 rfl hlk_15 (ty := (.array .int)) (v := .ref sx_72) (by decide +kernel) rfl rfl dX9_init__69 (fun H_79 locs_79 hraw_79 hr_79 hh_79 => ?_)
  have hraw_79 : va_at (dC, dI) vwCl (r0, .inr (11, [.ref r1, .ref r2, .int 0, .ref symbols_76, .ref sx_72, .ref H_25.size, .int (-1), .ref H_40.size, .ref H_53.size])) H_79 := hraw_79
  have hkp_80 := hkp_78.put hr_79
  clear hh_77
  refine lv_aload_n hx hb dX9_init__72 rfl (lv_at hl 0 rfl) ?_
  refine lv_aload_n hx hb dX9_init__73 rfl (lv_at hl 1 rfl) ?_
  refine j7_read hx hb hown hK (C := RX9) (T := TX9) (N := 9) rfl hly_11_5 hlk_19 (hh_79.at 2 rfl) dX9_init__74 ?_
  refine j7_putR hx hb hown hK hh_79 hB hAp hraw_79 hraw_59n hbr0 (C := RX9) (T := TX9) (N := 9) rfl (i := 5) (by decide) (Nat.le_of_ble_eq_true rfl) hly_11_5 rfl hlk_19 (ty := (.array (.array .int))) (v := .ref sy_72) (by decide +kernel) rfl rfl dX9_init__77 (fun H_81 locs_81 hraw_81 hr_81 hh_81 => ?_)
  have hraw_81 : va_at (dC, dI) vwCl (r0, .inr (11, [.ref r1, .ref r2, .int 0, .ref symbols_76, .ref sx_72, .ref sy_72, .int (-1), .ref H_40.size, .ref H_53.size])) H_81 := hraw_81
  have hkp_82 := hkp_80.put hr_81
  clear hh_79
  refine lv_aload_n hx hb dX9_init__80 rfl (lv_at hl 0 rfl) ?_
  refine lv_aload_n hx hb dX9_init__81 rfl (lv_at hl 1 rfl) ?_
  obtain ⟨v_83, hv_83, hh_84⟩ := hh_81.pin (C := RX9) (T := TX9) (N := 9) hB11 rfl (by decide) hg_56 (i := 6) (by decide) rfl
  clear hh_81
  obtain ⟨lemma_85, rfl⟩ := hv_83
  refine j7_read hx hb hown hK (C := RX9) (T := TX9) (N := 9) rfl hly_11_6 hlk_23 (hh_84.at 0 rfl) dX9_init__82 ?_
  refine j7_putR hx hb hown hK hh_84 hB hAp hraw_81 hraw_59n hbr0 (C := RX9) (T := TX9) (N := 9) rfl (i := 6) (by decide) (Nat.le_of_ble_eq_true rfl) hly_11_6 rfl hlk_23 (ty := .int) (v := .int lemma_85) (by decide +kernel) rfl rfl dX9_init__85 (fun H_86 locs_86 hraw_86 hr_86 hh_86 => ?_)
  have hraw_86 : va_at (dC, dI) vwCl (r0, .inr (11, [.ref r1, .ref r2, .int 0, .ref symbols_76, .ref sx_72, .ref sy_72, .int lemma_85, .ref H_40.size, .ref H_53.size])) H_86 := hraw_86
  have hkp_87 := hkp_82.put hr_86
  clear hh_84
  refine lv_aload_n hx hb dX9_init__88 rfl (lv_at hl 0 rfl) ?_
  refine lv_aload_n hx hb dX9_init__89 rfl (lv_at hl 1 rfl) ?_
  obtain ⟨v_88, hv_88, hh_89⟩ := hh_86.pin (C := RX9) (T := TX9) (N := 9) hB11 rfl (by decide) hg_56 (i := 7) (by decide) rfl
  clear hh_86
  obtain ⟨statement_90, nstatement_90, rfl, hg_statement_90, hn_statement_90⟩ := hv_88
  refine j7_read hx hb hown hK (C := RX9) (T := TX9) (N := 9) rfl hly_11_7 hlk_27 (hh_89.at 0 rfl) dX9_init__90 ?_
  refine j7_putR hx hb hown hK hh_89 hB hAp hraw_86 hraw_59n hbr0 (C := RX9) (T := TX9) (N := 9) rfl (i := 7) (by decide) (Nat.le_of_ble_eq_true rfl) hly_11_7 rfl hlk_27 (ty := (.array .int)) (v := .ref statement_90) (by decide +kernel) rfl rfl dX9_init__93 (fun H_91 locs_91 hraw_91 hr_91 hh_91 => ?_)
  have hraw_91 : va_at (dC, dI) vwCl (r0, .inr (11, [.ref r1, .ref r2, .int 0, .ref symbols_76, .ref sx_72, .ref sy_72, .int lemma_85, .ref statement_90, .ref H_53.size])) H_91 := hraw_91
  have hkp_92 := hkp_87.put hr_91
  clear hh_89
  refine lv_aload_n hx hb dX9_init__96 rfl (lv_at hl 0 rfl) ?_
  refine lv_aload_n hx hb dX9_init__97 rfl (lv_at hl 1 rfl) ?_
  obtain ⟨v_93, hv_93, hh_94⟩ := hh_91.pin (C := RX9) (T := TX9) (N := 9) hB11 rfl (by decide) hg_56 (i := 8) (by decide) rfl
  clear hh_91
  obtain ⟨goals_95, ngoals_95, rfl, hg_goals_95, hn_goals_95⟩ := hv_93
  refine j7_read hx hb hown hK (C := RX9) (T := TX9) (N := 9) rfl hly_11_8 hlk_32 (hh_94.at 0 rfl) dX9_init__98 ?_
  refine j7_putR hx hb hown hK hh_94 hB hAp hraw_91 hraw_59n hbr0 (C := RX9) (T := TX9) (N := 9) rfl (i := 8) (by decide) (Nat.le_of_ble_eq_true rfl) hly_11_8 rfl hlk_32 (ty := (.array (.object "ProofServer$Goal"))) (v := .ref goals_95) (by decide +kernel) rfl rfl dX9_init__101 (fun H_96 locs_96 hraw_96 hr_96 hh_96 => ?_)
  have hraw_96 : va_at (dC, dI) vwCl (r0, .inr (11, [.ref r1, .ref r2, .int 0, .ref symbols_76, .ref sx_72, .ref sy_72, .int lemma_85, .ref statement_90, .ref goals_95])) H_96 := hraw_96
  have hkp_97 := hkp_92.put hr_96
  clear hh_94
  have hsz_98 := hh_96.2.2.2.2.2.1
  have htt_98 := hh_96.2.2.2.2.2.2.1
  refine W.room (fun hrc_98 hrs_98 => ?_)
  refine W.widen (k := LC - s.heap.size) (n := LS - jTot s.heap) (by omega) (by omega) ?_
  rw [hQ]
  have hd_99 := jSef.typ (n := 0) (hh_96.iv 1 rfl) hraw_59n ⟨sx_72, sy_72, sm_72, jf.raw (C := RX9) (T := TX9) (N := 9) rfl hraw_96 (i := 4) (by decide), jf.raw (C := RX9) (T := TX9) (N := 9) rfl hraw_96 (i := 5) (by decide), (jLe.rf) _ _ hg_sx_72, (jLe.rf) _ _ hg_sy_72, by omega⟩
  have hh_100 := hh_96.sub (L1 := [(r1, 11, 8, .ref goals_95), (r1, 11, 7, .ref statement_90), (r1, 11, 6, .int lemma_85), (r1, 11, 3, .ref symbols_76), (r1, 11, 4, .ref sx_72), (r1, 11, 5, .ref sy_72)]) [0, 1, 2, 3, 4, 5] rfl (M1 := []) [] rfl (I1 := [(jFun, jUN dC dI ca G_55 0 us rw)]) [0] rfl
  clear hh_96
  have hg_102 := (jLe.rf) _ _ hg_57
  have hg_103 := (jLe.rf) _ _ hg_56
  have hd_101 := jUN.typ (r := 0) (l := rr) (hh_100.iv 0 rfl) hraw_59n (jf.raw (C := RX9) (T := TX9) (N := 9) rfl hraw_96 (i := 0) (by decide)) (jf.raw (C := RX9) (T := TX9) (N := 9) rfl hraw_96 (i := 1) (by decide)) hg_102 (fun he9 => jnC.nw hg_103 (hp1 he9))
  have hh_104 := hh_100.sub (L1 := [(r1, 11, 8, .ref goals_95), (r1, 11, 7, .ref statement_90), (r1, 11, 6, .int lemma_85), (r1, 11, 3, .ref symbols_76), (r1, 11, 4, .ref sx_72), (r1, 11, 5, .ref sy_72)]) [0, 1, 2, 3, 4, 5] rfl (M1 := []) [] rfl (I1 := []) [] rfl
  clear hh_100
  have hle_105 : jLe G_55 (va_up G_55 r0 (some (11, 0))) := jLe.typ hraw_59n
  have hg_106 := hle_105 _ _ hg_56
  have hg_107 := hle_105 _ _ hg_57
  have hg_108 := hle_105 _ _ hg_goals_95
  have hg_109 := hle_105 _ _ hg_statement_90
  have hg_110 := hle_105 _ _ hg_symbols_76
  have hg_111 := hle_105 _ _ hg_sx_72
  have hg_112 := hle_105 _ _ hg_sy_72
  have hg_113 := (jLe.rf).tr hle_105 _ _ hg_56
  have hg_114 := (jLe.rf).tr hle_105 _ _ hg_57
  have hg_115 := (jLe.rf).tr hle_105 _ _ hg_symbols_76
  have hg_116 := (jLe.rf).tr hle_105 _ _ hg_sx_72
  have hg_117 := (jLe.rf).tr hle_105 _ _ hg_sy_72
  have hg_118 := (jLe.rf).tr hle_105 _ _ hg_statement_90
  have hg_119 := (jLe.rf).tr hle_105 _ _ hg_goals_95
  have hfa_105 : jRn (va_up G_55 r0 (some (11, 0))) 11 0 (.ref r1) ∧ jRk (va_up G_55 r0 (some (11, 0))) 175 1500 (.ref r2) ∧ jIa (.int 0) ∧ jRk (va_up G_55 r0 (some (11, 0))) 101 16 (.ref symbols_76) ∧ jRk (va_up G_55 r0 (some (11, 0))) 101 16 (.ref sx_72) ∧ jRk (va_up G_55 r0 (some (11, 0))) 313 16 (.ref sy_72) ∧ jIa (.int lemma_85) ∧ jRk (va_up G_55 r0 (some (11, 0))) 280 80 (.ref statement_90) ∧ jRk (va_up G_55 r0 (some (11, 0))) 214 6 (.ref goals_95) ∧ True := ⟨Or.inr ⟨_, rfl, hg_113⟩, ⟨_, _, rfl, hg_114, by omega⟩, ⟨_, rfl⟩, ⟨_, _, rfl, hg_115, by omega⟩, ⟨_, _, rfl, hg_116, by omega⟩, ⟨_, _, rfl, hg_117, by omega⟩, ⟨_, rfl⟩, ⟨_, _, rfl, hg_118, by omega⟩, ⟨_, _, rfl, hg_119, by omega⟩, trivial⟩
  have hh_105 := hh_104.typ (k := 11) (n := 0) hB hraw_59n hbr0 hraw_96.lt (jOb.of (C := RX9) (T := TX9) (N := 9) (F := F11) hB11 rfl hraw_96 (show jFx (F11 0 (va_up G_55 r0 (some (11, 0)))) [.ref r1, .ref r2, .int 0, .ref symbols_76, .ref sx_72, .ref sy_72, .int lemma_85, .ref statement_90, .ref goals_95] from hfa_105))
  have hgn_105 : (va_up G_55 r0 (some (11, 0))) r0 = some (11, 0) := jUp_self
  have hN_105 : (jNk [0, 1, 2, 3, 4, 5, 6, 7, 8, 9, 10, 12, 13, 14, 15, 16, 17, 175]) G_55 (va_up G_55 r0 (some (11, 0))) := jNk.new (by decide)
  have hNn_105 : (jNk [0, 1, 2, 3, 4, 5, 6, 7, 8, 9, 10, 12, 13, 14, 15, 16, 17, 175]) G0 (va_up G_55 r0 (some (11, 0))) := (hNn_55).tr hN_105
  have hkp_120 := hkp_97.typ (t := some (11, 0))
  have hh_121 := hh_105.addI (jUN.ie hd_101)
  clear hh_105
  have hh_122 := hh_121.addI (jSef.ie hd_99)
  clear hh_121
  exact W.vret hx hb hr (fun t ht hW => ⟨⟨(va_up G_55 r0 (some (11, 0))), rfl, trivial, ⟨hh_122.ra (by first | (simp only; omega) | omega) (by first | (simp only; omega) | omega) (M1 := []) [] rfl ht, hNn_105, hgn_105, by rw [ht]; exact hkp_120, by rw [ht]; exact hh_122.2.2.2.2.2.2.2.2.sub (L1 := [(jFs11, jSef dC dI (va_up G_55 r0 (some (11, 0)))), (jFun, jUN dC dI ca (va_up G_55 r0 (some (11, 0))) 0 us (jUf rw r0 rr))]) [0, 1] rfl⟩⟩, by rw [ht]; try exact hh_122.1.1, fun q h9 hq => by rw [ht]; try exact hh_122.1.2.1 q h9 hq⟩) hh_122.1.2.2 dX9_init__104
set_option maxHeartbeats 4000000 in
set_option maxRecDepth 20000 in
theorem uX5_checkN (l : Launch) (dC : Nat → ClassId) (dI : Nat → Nat → Nat) (ca : Nat → ClassId) (base : Nat) (B : jF) (hB : jBok B) (hAp : jAp (dC, dI)) (hB5 : ∀ n G a H, B 5 n G a H ↔ jOb (dC, dI) 5 4 (F5 n G) a H) (hB7 : ∀ n G a H, B 7 n G a H ↔ jOb (dC, dI) 7 11 (F7 n G) a H) (hB8 : ∀ n G a H, B 8 n G a H ↔ jOb (dC, dI) 8 4 (F8 n G) a H) (hB11 : ∀ n G a H, B 11 n G a H ↔ jOb (dC, dI) 11 9 (F11 n G) a H) (hB12 : ∀ n G a H, B 12 n G a H ↔ jOb (dC, dI) 12 11 (F12b n G) a H) (hB101 : ∀ n G a H, B 101 n G a H ↔ jAr (dC, dI) (ca 1) (fun j z => True) n a H) (hB102 : ∀ n G a H, B 102 n G a H ↔ jAl (dC, dI) (ca 2) n a H) (hB132 : ∀ n G a H, B 132 n G a H ↔ jAr (dC, dI) (ca 1) (fun j z => 0 ≤ z.toInt ∧ z.toInt ≤ 10) n a H) (hB133 : ∀ n G a H, B 133 n G a H ↔ jAr (dC, dI) (ca 1) (fun j z => 0 ≤ z.toInt ∧ z.toInt ≤ 8192) n a H) (hB175 : ∀ n G a H, B 175 n G a H ↔ jAr (dC, dI) (ca 1) (fun j z => True) n a H) (hB211 : ∀ n G a H, B 211 n G a H ↔ jAq (dC, dI) (ca 7) (jQh) n G a H) (hB214 : ∀ n G a H, B 214 n G a H ↔ jAq (dC, dI) (ca 7) (jQg) n G a H) (hB280 : ∀ n G a H, B 280 n G a H ↔ jAr (dC, dI) (ca 1) (fun j z => -1 ≤ z.toInt) n a H) (hB290 : ∀ n G a H, B 290 n G a H ↔ jAr (dC, dI) (ca 1) (fun j z => 0 ≤ z.toInt ∧ z.toInt ≤ 3000) n a H) (hB291 : ∀ n G a H, B 291 n G a H ↔ jAr (dC, dI) (ca 1) (fun j z => 0 ≤ z.toInt ∧ z.toInt ≤ 3000) n a H) (hB292 : ∀ n G a H, B 292 n G a H ↔ jAr (dC, dI) (ca 1) (fun j z => 0 ≤ z.toInt ∧ z.toInt ≤ 8191) n a H) (hB293 : ∀ n G a H, B 293 n G a H ↔ jAr (dC, dI) (ca 1) (fun j z => -1 ≤ z.toInt ∧ z.toInt ≤ 8191) n a H) (hB313 : ∀ n G a H, B 313 n G a H ↔ jAq (dC, dI) (ca 8) (jQk 280 80) n G a H) (hB315 : ∀ n G a H, B 315 n G a H ↔ jAqZ (dC, dI) (ca 8) n a H) (G0 : jT) (H0 : Heap) (r0 : Nat) (r1 : Nat) (r2 : Nat) (a3 : Int32) (n2 : Nat) (gx : Nat) (rr : List Int) (us : Nat → List Int) (rw : Nat → List Int) (LC LS : Nat) : Met l yX5_check (jw yX5_check cX5_check 8 (some (.object "ProofServer$State"))) ({ frames := 70, cells := LC - H0.size, slots := LS - jTot H0, locals := 2256 }) (va_Pc [.ref r0, .ref r1, .ref r2, .int a3] (fun U => U.heap = H0 ∧ jX B base G0 [] H0 ∧ jG dC dI ca base U ∧ jK2 dC dI ca U ∧ jK5 dC dI ca U ∧ jK6 U ∧ G0 r0 = some (7, 0) ∧ G0 r1 = some (11, 0) ∧ G0 r2 = some (175, n2) ∧ jP (dC, dI) G0 H0 [] ∧ jIs (dC, dI) G0 H0 [(jFs11, jSef dC dI G0), (jFun, jUN dC dI ca G0 0 us rw)] ∧ H0.size + 23 ≤ LC ∧ jTot H0 + (183 + 336 * gx) ≤ LS ∧ n2 ≤ 1500 ∧ (gx = 1 ∨ n2 ≤ 2) ∧ (jnE rr → (∀ c ∈ us r2, c ≠ (-1 : Int)) ∧ us r2 ≠ [] ∧ (rw r1).count (-1) < 40 ∧ rr = rw r1 ++ (us r2 ++ [-1]) ∧ jnE (rw r1)))) (jQx (S := Nat × jT) (fun v u => jRf u.2 11 0 v ∧ v = .ref u.1 ∧ (∀ z : Nat, G0 z = some (11, 0) → z ≠ u.1)) (fun u t => jRa (dC, dI) B base G0 u.2 EX5_checkN H0 (23) ((183 + 336 * gx)) [] t.heap ∧ (jNk [0, 1, 2, 3, 4, 6, 7, 8, 9, 10, 12, 13, 14, 15, 16, 17, 175]) G0 u.2 ∧ jIs (dC, dI) u.2 t.heap [(jFs11, jSef dC dI u.2), (jFun, jUN dC dI ca u.2 0 us (jUf rw u.1 rr))]) (jA base)) (LC - H0.size) (LS - jTot H0) (jA base) := by
  refine Met.ofW (cc := cX5_check) (maxL := 8) (ret := (some (.object "ProofServer$State"))) (by decide) rfl ?_
  intro p e s m args below meth c s₁ Bd hml hv
  obtain ⟨rfl, hH0, hX, hG, hK2, hK5, hK6, hg_r0, hg_r1, hg_r2, hP0, hI0, hLC0, hLS0, hp0, hp1, hp2⟩ := hv
  have hK := hG.1
  have hx := Bd.exec
  have hb := Bd.bytes
  have hr := Bd.returns
  have hts := atoms_spec (ws := (jw yX5_check cX5_check 8 (some (.object "ProofServer$State")))) Bd.pre
  have htw : ∀ w ∈ jWl, w.before _ s = true := fun w h => hts w (List.mem_cons_of_mem _ h)
  have hown : s.vm.findClass RX5 = some m.cls := findClass_of_methodNamed Bd.named
  have hlocks := Bd.notSynchronized
  obtain ⟨Q, hQ⟩ : ∃ Q, Q = MQ below (jQx (S := Nat × jT) (fun v u => jRf u.2 11 0 v ∧ v = .ref u.1 ∧ (∀ z : Nat, G0 z = some (11, 0) → z ≠ u.1)) (fun u t => jRa (dC, dI) B base G0 u.2 EX5_checkN H0 (23) ((183 + 336 * gx)) [] t.heap ∧ (jNk [0, 1, 2, 3, 4, 6, 7, 8, 9, 10, 12, 13, 14, 15, 16, 17, 175]) G0 u.2 ∧ jIs (dC, dI) u.2 t.heap [(jFs11, jSef dC dI u.2), (jFun, jUN dC dI ca u.2 0 us (jUf rw u.1 rr))]) (jA base)) ([.ref r0, .ref r1, .ref r2, .int a3] : List Value).toArray s (LC - H0.size) (LS - jTot H0) (jA base) := ⟨_, rfl⟩
  rw [← hQ]
  have hl := lv_entry ([.ref r0, .ref r1, .ref r2, .int a3]) (n := 8) (Nat.le_of_ble_eq_true rfl)
  rw [lg_entry_eq]
  generalize (lg_sl ([.ref r0, .ref r1, .ref r2, .int a3]) ++ List.replicate (8 - (lg_sl ([.ref r0, .ref r1, .ref r2, .int a3])).length) Slot.unset).toArray = ls at hl ⊢
  have hl : lv_has ls 8 [(0, .ref r0), (1, .ref r1), (2, .ref r2), (3, .int a3)] := hl
  generalize hR : (headSpec (jw yX5_check cX5_check 8 (some (.object "ProofServer$State"))) ({ frames := 70, cells := LC - H0.size, slots := LS - jTot H0, locals := 2256 })).room = R
  subst hH0
  have hh : jSt (dC, dI) B base G0 G0 EX5_checkN s.heap 0 0 [] [] [(jFs11, jSef dC dI G0), (jFun, jUN dC dI ca G0 0 us rw)] s.heap [] := jSt.start hX hP0 jMc.nil hI0
  clear hX hP0
  have hk0 : (0 : Int32).toInt = 0 := by decide
  have hk1 : (1 : Int32).toInt = 1 := by decide
  have hk3 : (3 : Int32).toInt = 3 := by decide
  have hk4 : (4 : Int32).toInt = 4 := by decide
  have hk6 : (6 : Int32).toInt = 6 := by decide
  have hk8 : (8 : Int32).toInt = 8 := by decide
  have hly_7_1 := htw (u_lay RX5 TX5 1) (jWc_wsX50 _ (u_in_lay (by decide)))
  have hly_11_2 := htw (u_lay RX9 TX9 2) (jWc_wsX90 _ (u_in_lay (by decide)))
  have hly_11_6 := htw (u_lay RX9 TX9 6) (jWc_wsX90 _ (u_in_lay (by decide)))
  have hly_12_5 := htw (u_lay RX10 TX10 5) (jWc_wsX100 _ (u_in_lay (by decide)))
  have hlk_62 := (htw (.fieldLink RX5 62 "ProofServer$State" "fault" "I") (jWr_78 _ (List.mem_of_getElem? (i := 18) rfl)))
  have hlk_23 := (htw (.fieldLink RX5 23 "ProofServer$Kernel" "syntax" "LProofServer$Syntax;") (jWr_4 _ (List.mem_of_getElem? (i := 15) rfl)))
  have hlk_74 := (htw (.fieldLink RX5 74 "ProofServer$Syntax" "word" "I") (jWr_78 _ (List.mem_of_getElem? (i := 19) rfl)))
  have hlk_77 := (htw (.fieldLink RX5 77 "ProofServer$State" "lemma" "I") (jWr_78 _ (List.mem_of_getElem? (i := 20) rfl)))
  have hrg_a3 := jb_rng a3
  have hbs : base ≤ s.heap.size := Nat.le_of_lt (Nat.lt_of_le_of_lt (hh.ab hg_r0).1 (hh.ab hg_r0).2)
  have hRc : R.cells = LC - s.heap.size := by rw [← hR]; rfl
  have hRs : R.slots = LS - jTot s.heap := by rw [← hR]; rfl
  have hab9 : ∀ z, G0 z = some (11, 0) → z < s.heap.size := fun z hz => (hh.ab hz).2
  have hsz_1 := hh.2.2.2.2.2.1
  have htt_1 := hh.2.2.2.2.2.2.1
  refine j7_newo (k := 11) (C := RX9) (T := TX9) (N := 9) (fs := [.null, .null, .int 0, .null, .null, .null, .int 0, .null, .null]) hx hb htw jWc_wsX90 (fun k => ([(.object "ProofServer$State"), (.array .int), .int, (.array .int), (.array .int), (.array (.array .int)), .int, (.array .int), (.array (.object "ProofServer$Goal"))] : List FieldType).getD k .int) (by decide +kernel) hown (htw (.classLink RX5 27 RX9) (jWr_4 _ (List.mem_of_getElem? (i := 16) rfl))) (htw (.instantiable RX9 9) (jWr_4 _ (List.mem_of_getElem? (i := 17) rfl))) (htw (.initialized RX9) (jWr_4 _ (List.mem_of_getElem? (i := 18) rfl))) hK rfl (fun j hj => by rcases (by omega : j = 0 ∨ j = 1 ∨ j = 2 ∨ j = 3 ∨ j = 4 ∨ j = 5 ∨ j = 6 ∨ j = 7 ∨ j = 8) with rfl | rfl | rfl | rfl | rfl | rfl | rfl | rfl | rfl <;> rfl) hh hB (by rw [hRc]; omega) (by rw [hRs]; omega) dX5_check_0 (fun H_1 hraw_1 hfr_1 hnr_1 hh_1 => ?_)
  have hke_1 : jKe G0 G0 s.heap H_1 := jKe.raw hfr_1
  have hbr_1 : base ≤ s.heap.size := Nat.le_trans hbs hh.1.1
  have hsy_1 : s.heap.size ≤ s.heap.size := hh.1.1
  clear hh
  refine lv_dup hx hb dX5_check_3 rfl ?_
  refine lv_aload_n hx hb dX5_check_4 rfl (lv_at hl 1 rfl) ?_
  refine lv_aload_n hx hb dX5_check_5 rfl (lv_at hl 2 rfl) ?_
  have hsz_2 := hh_1.2.2.2.2.2.1
  have htt_2 := hh_1.2.2.2.2.2.2.1
  refine W.room (fun hrc_2 hrs_2 => ?_)
  refine va_callv (A0 := jA base) (H0 := s.heap) (va_runI (As := [.ref r1, .ref r2]) (rest := [.ref s.heap.size]) ⟨hx, hb, hml, hown, hts⟩ (uX9_init_N l dC dI ca base B hB hAp hB5 hB11 hB101 hB175 hB214 hB280 hB313 G0 H_1 s.heap.size r1 r2 n2 rr us rw LC LS) (cwI 2 hts (jgW (jWr_78 _ (List.mem_of_getElem? (i := 23) rfl))) rfl rfl rfl (htw (.initialized RX9) (jWr_4 _ (List.mem_of_getElem? (i := 18) rfl))) (htw (.methodLink RX5 59 yX9_init_) (jWr_78 _ (List.mem_of_getElem? (i := 21) rfl))) (htw (.instanceMethod yX9_init_) (jWr_78 _ (List.mem_of_getElem? (i := 22) rfl))) rfl (by decide +kernel) ⟨by rw [← hR]; exact Nat.le_of_ble_eq_true rfl, by rw [← hR]; exact Nat.le_of_ble_eq_true rfl⟩) ⟨fun a U g mk q => by obtain ⟨q0, q1, q2, qK, q10, q11, q12, q13, q14, q15, q16, q17, q18, q19, q20⟩ := q; exact ⟨q0, q1, q2, jG.calling g mk a qK, (va_K.moved (Vm.Alike.refl U.vm) q10), (jK5.moved (Vm.Alike.refl U.vm) q11), (jK6.moved (Vm.Alike.refl U.vm) q12), q13, q14, q15, q16, q17, q18, q19, q20⟩, fun U hU hW => ⟨rfl, hU, hh_1.2.1, hG.step hW hU hh_1.1, va_K.moved hW.alike hK2, jK5.moved hW.alike hK5, jK6.moved hW.alike hK6, hg_r1, hg_r2, hraw_1, hnr_1, hbr_1, jP.nil, (hh_1.2.2.2.2.2.2.2.2.sub (L1 := [(jFs11, jSef dC dI G0), (jFun, jUN dC dI ca G0 0 us rw)]) [0, 1] rfl), (by omega), (by omega), by first | omega | (refine ⟨?_, ?_⟩ <;> (first | omega | rfl | assumption | decide | exact Or.inl rfl | exact Or.inr rfl | (simp only; omega)))⟩⟩ rfl rfl hl.1 rfl (lv_room (Nat.le_of_ble_eq_true rfl)) dX5_check_6 ⟨by rw [hRc]; omega, by rw [hRs]; omega⟩) hh_1.1 (fun q _ h => h) (fun q h => h) (fun u_2 t_2 H_2 locs_2 ht_2 hvm_2 hr_3 hb_2 hz_2 hk_2 hS_2 => ?_)
  rw [ht_2] at hb_2
  obtain ⟨G_2, rfl⟩ : ∃ z, z = u_2 := ⟨_, rfl⟩
  try simp only at hb_2
  obtain ⟨⟨hb_21, hb_22, hb_23, hb_24, hb_25, hb_26⟩, hN_2, hgc_2, hbX_2, hbE_2⟩ := hb_2
  have hW_2 := hN_2
  have hN_2 : (jNk [0, 1, 2, 3, 4, 6, 7, 8, 9, 10, 12, 13, 14, 15, 16, 17, 175]) G0 G_2 := hN_2.sub (by decide)
  have hh_2 : jSt (dC, dI) B base G0 G_2 EX5_checkN s.heap ((0 + 1) + (5)) ((0 + 9) + (0)) [] [] [] H_2 locs_2 := (hh_1.callG hb_21 hb_22 hb_23 hb_24 hb_25 hS_2 rfl (L1 := []) [] rfl rfl (M1 := []) [] rfl rfl (I1 := []) [] rfl rfl).more hb_26
  have hNn_2 : (jNk [0, 1, 2, 3, 4, 6, 7, 8, 9, 10, 12, 13, 14, 15, 16, 17, 175]) G0 G_2 := (jNk.rf).tr hN_2
  have hg_4 := hb_22 _ _ hg_r0
  have hg_5 := hb_22 _ _ hg_r1
  have hg_6 := hb_22 _ _ hg_r2
  have hh_7 := hh_2.addIs hbE_2
  try simp only at hr_3
  refine lv_astore (lv' := [(4, .ref s.heap.size), (0, .ref r0), (1, .ref r1), (2, .ref r2), (3, .int a3)]) hx hb dX5_check_9 hl (by decide) rfl (fun ls hl => ?_)
  refine lv_aload hx hb dX5_check_11 (lv_at hl 0 rfl) ?_
  refine lv_iload_n hx hb dX5_check_13 rfl (lv_at hl 4 rfl) ?_
  refine j7_put hx hb hown hK hh_7 hB hAp hB11 (C := RX9) (T := TX9) (N := 9) rfl (by decide) hgc_2 (i := 2) (by decide) hly_11_2 rfl hlk_62 rfl (ty := .int) (v := .int a3) (by decide +kernel) rfl rfl (⟨_, rfl⟩) rfl (L1 := []) [] rfl rfl rfl dX5_check_14 (fun H_8 locs_8 hh_8 => ?_)
  clear hh_7
  refine lv_iload_n hx hb dX5_check_17 rfl (lv_at hl 4 rfl) ?_
  refine lv_if_le (tgt := 24) hx hb dX5_check_18 (by decide) (fun c_9 => ?_) (fun c_9 => ?_)
  · skip
    have c_9' : a3.toInt ≤ 0 := jb_le (rfl) ((by decide)) c_9
    refine lv_aload_n hx hb dX5_check_24 rfl (lv_at hl 1 rfl) ?_
    obtain ⟨v_10, hv_10, hh_11⟩ := hh_8.pin (C := RX5) (T := TX5) (N := 11) hB7 rfl (by decide) hg_4 (i := 1) (by decide) rfl
    clear hh_8
    obtain ⟨syntax_12, rfl, hg_syntax_12⟩ := hv_10
    refine j7_read hx hb hown hK (C := RX5) (T := TX5) (N := 11) rfl hly_7_1 hlk_23 (hh_11.at 0 rfl) dX5_check_25 ?_
    refine lv_aload_n hx hb dX5_check_28 rfl (lv_at hl 3 rfl) ?_
    refine lv_iconst (v := 0) hx hb dX5_check_29 (by decide) ?_
    refine lv_aload_n hx hb dX5_check_30 rfl (lv_at hl 3 rfl) ?_
    refine j7_len hx hb hK hh_11 hB175 1 rfl (by decide) hg_6 (by omega) dX5_check_31 (fun z_13 hz_13 => ?_)
    have hsz_14 := hh_11.2.2.2.2.2.1
    have htt_14 := hh_11.2.2.2.2.2.2.1
    refine W.room (fun hrc_14 hrs_14 => ?_)
    refine va_calli (A0 := jA base) (H0 := s.heap) (va_runV (As := [.ref r2, .int 0, .int z_13]) (rest := []) ⟨hx, hb, hml, hown, hts⟩ (uX10_scanSa9 l dC dI ca base B hB hAp hB8 hB12 hB101 hB102 hB132 hB133 hB175 hB293 G_2 H_8 syntax_12 r2 0 z_13 n2) (cwV 3 hts (jgV (jWr_79 _ (List.mem_of_getElem? (i := 0) rfl)) (jWr_36 _ (List.mem_of_getElem? (i := 20) rfl)) (jWr_36 _ (List.mem_of_getElem? (i := 21) rfl)) (jWr_4 _ (List.mem_of_getElem? (i := 14) rfl)) (jWr_36 _ (List.mem_of_getElem? (i := 22) rfl))) rfl rfl rfl (by decide +kernel) ⟨by rw [← hR]; exact Nat.le_of_ble_eq_true rfl, by rw [← hR]; exact Nat.le_of_ble_eq_true rfl⟩) ⟨fun a U g mk q => by obtain ⟨q0, q1, q2, qK, q10, q11, q12, q13⟩ := q; exact ⟨q0, q1, q2, jG.calling g mk a qK, q10, q11, q12, q13⟩, hh_11.recv (C := RX10) (T := TX10) (N := 11) hB12 rfl (by decide) hg_syntax_12 hK, fun U hU hW => ⟨rfl, hU, hh_11.2.1, hG.step hW hU hh_11.1, hg_syntax_12, hg_6, jP.nil, by first | omega | (refine ⟨?_, ?_, ?_⟩ <;> (first | omega | rfl | assumption | decide | exact Or.inl rfl | exact Or.inr rfl | (simp only; omega)))⟩⟩ rfl rfl hl.1 rfl (lv_room (Nat.le_of_ble_eq_true rfl)) dX5_check_32 ⟨by rw [hRc]; show _ + 0 ≤ _; omega, by rw [hRs]; show _ + 0 ≤ _; omega⟩) hh_11.1 (fun q _ h => h) (fun q h => h) (fun r_15 u_14 t_14 H_14 locs_14 ht_14 hvm_14 hr_15 hb_14 hz_14 hk_14 hS_14 => ?_)
    obtain ⟨qk_14, rfl⟩ : ∃ z, z = u_14 := ⟨_, rfl⟩
    rw [ht_14] at hb_14
    obtain ⟨hb_141, hb_142, hb_143, hb_144, hb_145⟩ := hb_14
    have hh_14 : jSt (dC, dI) B base G0 G_2 EX5_checkN s.heap ((0 + 1) + (5)) ((0 + 9) + (0)) [(syntax_12, 12, 3, .int qk_14), (r0, 7, 1, .ref syntax_12), (s.heap.size, 11, 2, .int a3)] [] [(jFs11, jSef dC dI G_2), (jFun, jUN dC dI ca G_2 0 us (jUf rw (s.heap.size) rr))] H_14 locs_14 := ((hh_11.call hb_141 hb_142 hb_143 hb_144 hS_14 rfl (L1 := [(r0, 7, 1, .ref syntax_12), (s.heap.size, 11, 2, .int a3)]) [0, 1] rfl rfl (M1 := []) [] rfl rfl (I1 := [(jFs11, jSef dC dI G_2), (jFun, jUN dC dI ca G_2 0 us (jUf rw (s.heap.size) rr))]) [0, 1] rfl rfl).more hb_145)
    clear hh_11 ht_14 hvm_14 hz_14 hk_14 hS_14 hb_141 hb_142 hb_143 hb_144 hb_145
    obtain ⟨hr_15_0, hr_15_1, hr_15_2, hr_15_3⟩ := hr_15
    refine lv_pop hx hb dX5_check_35 rfl ?_
    refine lv_aload_n hx hb dX5_check_36 rfl (lv_at hl 1 rfl) ?_
    refine j7_read hx hb hown hK (C := RX5) (T := TX5) (N := 11) rfl hly_7_1 hlk_23 (hh_14.at 1 rfl) dX5_check_37 ?_
    have hsz_16 := hh_14.2.2.2.2.2.1
    have htt_16 := hh_14.2.2.2.2.2.2.1
    refine W.room (fun hrc_16 hrs_16 => ?_)
    refine va_calli (A0 := jA base) (H0 := s.heap) (va_runV (As := []) (rest := []) ⟨hx, hb, hml, hown, hts⟩ (uX10_isSentenceS l dC dI ca base B hB hAp hB12 hB101 hB280 hB292 hB293 G_2 H_14 syntax_12 qk_14) (cwV 0 hts (jgV (jWr_79 _ (List.mem_of_getElem? (i := 1) rfl)) (jWr_79 _ (List.mem_of_getElem? (i := 2) rfl)) (jWr_79 _ (List.mem_of_getElem? (i := 3) rfl)) (jWr_4 _ (List.mem_of_getElem? (i := 14) rfl)) (jWr_79 _ (List.mem_of_getElem? (i := 4) rfl))) rfl rfl rfl (by decide +kernel) ⟨by rw [← hR]; exact Nat.le_of_ble_eq_true rfl, by rw [← hR]; exact Nat.le_of_ble_eq_true rfl⟩) ⟨fun a U g mk q => by obtain ⟨q0, q1, q2, qK, q10, q11, q12⟩ := q; exact ⟨q0, q1, q2, jG.calling g mk a qK, q10, q11, q12⟩, hh_14.recv (C := RX10) (T := TX10) (N := 11) hB12 rfl (by decide) hg_syntax_12 hK, fun U hU hW => ⟨rfl, hU, hh_14.2.1, hG.step hW hU hh_14.1, hg_syntax_12, (hh_14.2.2.1.sub (L1 := [(syntax_12, 12, 3, .int qk_14)]) [0] rfl), by first | omega | (refine ⟨?_, ?_⟩ <;> (first | omega | rfl | assumption | decide | exact Or.inl rfl | exact Or.inr rfl | (simp only; omega)))⟩⟩ rfl rfl hl.1 rfl (lv_room (Nat.le_of_ble_eq_true rfl)) dX5_check_40 ⟨by rw [hRc]; show _ + 0 ≤ _; omega, by rw [hRs]; show _ + 0 ≤ _; omega⟩) hh_14.1 (fun q _ h => h) (fun q h => h) (fun r_17 u_16 t_16 H_16 locs_16 ht_16 hvm_16 hr_17 hb_16 hz_16 hk_16 hS_16 => ?_)
    obtain ⟨qw_16, rfl⟩ : ∃ z, z = u_16 := ⟨_, rfl⟩
    rw [ht_16] at hb_16
    obtain ⟨hb_161, hb_162, hb_163, hb_164, hb_165⟩ := hb_16
    have hh_16 : jSt (dC, dI) B base G0 G_2 EX5_checkN s.heap ((0 + 1) + (5)) ((0 + 9) + (0)) [(syntax_12, 12, 5, .int qw_16), (syntax_12, 12, 3, .int qk_14), (r0, 7, 1, .ref syntax_12), (s.heap.size, 11, 2, .int a3)] [] [(jFs11, jSef dC dI G_2), (jFun, jUN dC dI ca G_2 0 us (jUf rw (s.heap.size) rr))] H_16 locs_16 := ((hh_14.call hb_161 hb_162 hb_163 hb_164 hS_16 rfl (L1 := [(syntax_12, 12, 3, .int qk_14), (r0, 7, 1, .ref syntax_12), (s.heap.size, 11, 2, .int a3)]) [0, 1, 2] rfl rfl (M1 := []) [] rfl rfl (I1 := [(jFs11, jSef dC dI G_2), (jFun, jUN dC dI ca G_2 0 us (jUf rw (s.heap.size) rr))]) [0, 1] rfl rfl).more hb_165)
    clear hh_14 ht_16 hvm_16 hz_16 hk_16 hS_16 hb_161 hb_162 hb_163 hb_164 hb_165
    obtain ⟨hr_17b, hr_17p⟩ := hr_17
    have hr_17' := jb_01 hr_17b
    refine lv_istore (lv' := [(5, .int r_17), (4, .ref s.heap.size), (0, .ref r0), (1, .ref r1), (2, .ref r2), (3, .int a3)]) hx hb dX5_check_43 hl (by decide) rfl (fun ls hl => ?_)
    refine lv_aload_n hx hb dX5_check_45 rfl (lv_at hl 2 rfl) ?_
    refine j7_read hx hb hown hK (C := RX5) (T := TX5) (N := 11) rfl hly_7_1 hlk_23 (hh_16.at 2 rfl) dX5_check_46 ?_
    refine j7_read hx hb hown hK (C := RX10) (T := TX10) (N := 11) rfl hly_12_5 hlk_74 (hh_16.at 0 rfl) dX5_check_49 ?_
    refine lv_bipush (v := 6) hx hb dX5_check_52 (by decide) ?_
    have C62 : ∀ (w0_18 : Int32) (H_18 : Heap) (locs_18 : List Loc), jSt (dC, dI) B base G0 G_2 EX5_checkN s.heap ((0 + 1) + (5)) ((0 + 9) + (0)) [(syntax_12, 12, 5, .int qw_16), (syntax_12, 12, 3, .int qk_14), (r0, 7, 1, .ref syntax_12), (s.heap.size, 11, 2, .int a3)] [] [(jFs11, jSef dC dI G_2), (jFun, jUN dC dI ca G_2 0 us (jUf rw (s.heap.size) rr))] H_18 locs_18 → (w0_18 = 0 ∨ w0_18 = 1) → (True) → ∀ ls : Array Slot, lv_has ls 8 [(0, .ref r0), (1, .ref r1), (2, .ref r2), (3, .int a3), (4, .ref s.heap.size), (5, .int r_17)] → W p l e R s m ([.ref r0, .ref r1, .ref r2, .int a3] : List Value).toArray below meth c H_18 locs_18 ((0 + 1) + (5)) ((0 + 9) + (0)) Q (F0 m 62 ls [.int w0_18]) := by
      intro w0_18 H_18 locs_18 hh_18 hb_w0_18 hi_18 ls hl
      have hb_w0_18' := jb_01 hb_w0_18
      refine lv_istore (lv' := [(6, .int w0_18), (0, .ref r0), (1, .ref r1), (2, .ref r2), (3, .int a3), (4, .ref s.heap.size), (5, .int r_17)]) hx hb dX5_check_62 hl (by decide) rfl (fun ls hl => ?_)
      refine lv_aload hx hb dX5_check_64 (lv_at hl 5 rfl) ?_
      obtain ⟨v_19, hv_19, hh_20⟩ := hh_18.pin (C := RX9) (T := TX9) (N := 9) hB11 rfl (by decide) hgc_2 (i := 6) (by decide) rfl
      clear hh_18
      obtain ⟨lemma_21, rfl⟩ := hv_19
      refine j7_read hx hb hown hK (C := RX9) (T := TX9) (N := 9) rfl hly_11_6 hlk_77 (hh_20.at 0 rfl) dX5_check_66 ?_
      have C77 : ∀ (w0_22 : Int32) (H_22 : Heap) (locs_22 : List Loc), jSt (dC, dI) B base G0 G_2 EX5_checkN s.heap ((0 + 1) + (5)) ((0 + 9) + (0)) [(s.heap.size, 11, 6, .int lemma_21), (syntax_12, 12, 5, .int qw_16), (syntax_12, 12, 3, .int qk_14), (r0, 7, 1, .ref syntax_12), (s.heap.size, 11, 2, .int a3)] [] [(jFs11, jSef dC dI G_2), (jFun, jUN dC dI ca G_2 0 us (jUf rw (s.heap.size) rr))] H_22 locs_22 → (w0_22 = 0 ∨ w0_22 = 1) → (True) → ∀ ls : Array Slot, lv_has ls 8 [(0, .ref r0), (1, .ref r1), (2, .ref r2), (3, .int a3), (4, .ref s.heap.size), (5, .int r_17), (6, .int w0_18)] → W p l e R s m ([.ref r0, .ref r1, .ref r2, .int a3] : List Value).toArray below meth c H_22 locs_22 ((0 + 1) + (5)) ((0 + 9) + (0)) Q (F0 m 77 ls [.int w0_22]) := by
        intro w0_22 H_22 locs_22 hh_22 hb_w0_22 hi_22 ls hl
        have hb_w0_22' := jb_01 hb_w0_22
        refine lv_istore (lv' := [(7, .int w0_22), (0, .ref r0), (1, .ref r1), (2, .ref r2), (3, .int a3), (4, .ref s.heap.size), (5, .int r_17), (6, .int w0_18)]) hx hb dX5_check_77 hl (by decide) rfl (fun ls hl => ?_)
        refine lv_iload hx hb dX5_check_79 (lv_at hl 6 rfl) ?_
        refine lv_if_ne (tgt := 93) hx hb dX5_check_81 (by decide) (fun c_23 => ?_) (fun c_23 => ?_)
        · skip
          have c_23' : r_17.toInt ≠ 0 := jb_ne (rfl) ((by decide)) c_23
          first | (have hr_17pq := hr_17p.resolve_left (by omega); clear hr_17p) | (have hr_17pq := hr_17p.resolve_right (by omega); clear hr_17p) | skip
          refine lv_iload hx hb dX5_check_93 (lv_at hl 7 rfl) ?_
          refine lv_iload hx hb dX5_check_95 (lv_at hl 0 rfl) ?_
          refine lv_icmp_eq (tgt := 109) hx hb dX5_check_97 (by decide) (fun c_24 => ?_) (fun c_24 => ?_)
          · skip
            have c_24' : w0_18.toInt = w0_22.toInt := jb_eq (rfl) (rfl) c_24
            refine lv_aload_n hx hb dX5_check_109 rfl (lv_at hl 1 rfl) ?_
            refine j7_read hx hb hown hK (C := RX5) (T := TX5) (N := 11) rfl hly_7_1 hlk_23 (hh_22.at 3 rfl) dX5_check_110 ?_
            refine j7_read hx hb hown hK (C := RX10) (T := TX10) (N := 11) rfl hly_12_5 hlk_74 (hh_22.at 1 rfl) dX5_check_113 ?_
            refine lv_iconst (v := 4) hx hb dX5_check_116 (by decide) ?_
            refine lv_icmp_gt (tgt := 134) hx hb dX5_check_117 (by decide) (fun c_25 => ?_) (fun c_25 => ?_)
            · skip
              have c_25' : qw_16.toInt > 4 := jb_gt (rfl) ((by decide)) c_25
              first | (have hr_17pq := hr_17p.resolve_left (by omega); clear hr_17p) | (have hr_17pq := hr_17p.resolve_right (by omega); clear hr_17p) | skip
              refine lv_aload_n hx hb dX5_check_134 rfl (lv_at hl 1 rfl) ?_
              refine j7_read hx hb hown hK (C := RX5) (T := TX5) (N := 11) rfl hly_7_1 hlk_23 (hh_22.at 3 rfl) dX5_check_135 ?_
              refine j7_read hx hb hown hK (C := RX10) (T := TX10) (N := 11) rfl hly_12_5 hlk_74 (hh_22.at 1 rfl) dX5_check_138 ?_
              refine lv_bipush (v := 6) hx hb dX5_check_141 (by decide) ?_
              refine lv_icmp_gt (tgt := 160) hx hb dX5_check_143 (by decide) (fun c_26 => ?_) (fun c_26 => ?_)
              · skip
                have c_26' : qw_16.toInt > 6 := jb_gt (rfl) ((by decide)) c_26
                first | (have hr_17pq := hr_17p.resolve_left (by omega); clear hr_17p) | (have hr_17pq := hr_17p.resolve_right (by omega); clear hr_17p) | skip
                refine lv_aload_n hx hb dX5_check_160 rfl (lv_at hl 1 rfl) ?_
                refine j7_read hx hb hown hK (C := RX5) (T := TX5) (N := 11) rfl hly_7_1 hlk_23 (hh_22.at 3 rfl) dX5_check_161 ?_
                refine j7_read hx hb hown hK (C := RX10) (T := TX10) (N := 11) rfl hly_12_5 hlk_74 (hh_22.at 1 rfl) dX5_check_164 ?_
                refine lv_bipush (v := 8) hx hb dX5_check_167 (by decide) ?_
                refine lv_icmp_gt (tgt := 186) hx hb dX5_check_169 (by decide) (fun c_27 => ?_) (fun c_27 => ?_)
                · skip
                  have c_27' : qw_16.toInt > 8 := jb_gt (rfl) ((by decide)) c_27
                  first | (have hr_17pq := hr_17p.resolve_left (by omega); clear hr_17p) | (have hr_17pq := hr_17p.resolve_right (by omega); clear hr_17p) | skip
                  refine lv_aload hx hb dX5_check_186 (lv_at hl 5 rfl) ?_
                  refine lv_aload_n hx hb dX5_check_188 rfl (lv_at hl 1 rfl) ?_
                  refine lv_aload hx hb dX5_check_189 (lv_at hl 5 rfl) ?_
                  have hsz_28 := hh_22.2.2.2.2.2.1
                  have htt_28 := hh_22.2.2.2.2.2.2.1
                  refine W.room (fun hrc_28 hrs_28 => ?_)
                  refine va_calli (A0 := jA base) (H0 := s.heap) (va_runV (As := [.ref s.heap.size]) (rest := [.ref s.heap.size]) ⟨hx, hb, hml, hown, hts⟩ (uX5_tacticS l dC dI ca base B hB hAp hB5 hB7 hB11 hB12 hB101 hB211 hB214 hB280 hB290 hB291 hB292 hB313 hB315 G_2 H_22 r0 s.heap.size syntax_12 qw_16 gx LC LS) (cwV 1 hts (jgV (jWr_83 _ (List.mem_of_getElem? (i := 22) rfl)) (jWr_83 _ (List.mem_of_getElem? (i := 23) rfl)) (jWr_84 _ (List.mem_of_getElem? (i := 0) rfl)) (jWr_2 _ (List.mem_of_getElem? (i := 4) rfl)) (jWr_84 _ (List.mem_of_getElem? (i := 1) rfl))) rfl rfl rfl (by decide +kernel) ⟨by rw [← hR]; exact Nat.le_of_ble_eq_true rfl, by rw [← hR]; exact Nat.le_of_ble_eq_true rfl⟩) ⟨fun a U g mk q => by obtain ⟨q0, q1, q2, qK, q10, q11, q12, q13, q14, q15, q16, q17, q18⟩ := q; exact ⟨q0, q1, q2, jG.calling g mk a qK, (va_K.moved (Vm.Alike.refl U.vm) q10), (jK5.moved (Vm.Alike.refl U.vm) q11), (jK6.moved (Vm.Alike.refl U.vm) q12), q13, q14, q15, q16, q17, q18⟩, hh_22.recv (C := RX5) (T := TX5) (N := 11) hB7 rfl (by decide) hg_4 hK, fun U hU hW => ⟨rfl, hU, hh_22.2.1, hG.step hW hU hh_22.1, va_K.moved hW.alike hK2, jK5.moved hW.alike hK5, jK6.moved hW.alike hK6, hg_4, hgc_2, hg_syntax_12, (hh_22.2.2.1.sub (L1 := [(r0, 7, 1, .ref syntax_12), (syntax_12, 12, 5, .int qw_16)]) [3, 1] rfl), (hh_22.2.2.2.2.2.2.2.2.sub (L1 := [(jFs11, jSef dC dI G_2)]) [0] rfl), by first | omega | rfl | assumption | decide | exact Or.inl rfl | exact Or.inr rfl | (simp only; omega)⟩⟩ rfl rfl hl.1 rfl (lv_room (Nat.le_of_ble_eq_true rfl)) dX5_check_191 ⟨by rw [hRc]; omega, by rw [hRs]; omega⟩) hh_22.1 (fun q _ h => h) (fun q h => h) (fun r_29 u_28 t_28 H_28 locs_28 ht_28 hvm_28 hr_29 hb_28 hz_28 hk_28 hS_28 => ?_)
                  rw [ht_28] at hb_28
                  obtain ⟨G_28, rfl⟩ : ∃ z, z = u_28 := ⟨_, rfl⟩
                  try simp only at hb_28
                  obtain ⟨⟨hb_281, hb_282, hb_283, hb_284, hb_285, hb_286⟩, hN_28, hbE_28⟩ := hb_28
                  have hM_28 := hN_28
                  have hW_28 := hN_28
                  have hN_28 : (jNk [0, 1, 2, 3, 4, 6, 7, 8, 9, 10, 12, 13, 14, 15, 16, 17, 175]) G_2 G_28 := hN_28.sub (by decide)
                  have hh_28 : jSt (dC, dI) B base G0 G_28 EX5_checkN s.heap (((0 + 1) + (5)) + (17)) (((0 + 9) + (0)) + ((174 + 336 * gx))) [(s.heap.size, 11, 6, .int lemma_21), (syntax_12, 12, 5, .int qw_16), (syntax_12, 12, 3, .int qk_14), (r0, 7, 1, .ref syntax_12), (s.heap.size, 11, 2, .int a3)] [] [(jFun, jUN dC dI ca G_2 0 us (jUf rw (s.heap.size) rr))] H_28 locs_28 := (hh_22.callG hb_281 hb_282 hb_283 hb_284 hb_285 hS_28 rfl (L1 := [(s.heap.size, 11, 6, .int lemma_21), (syntax_12, 12, 5, .int qw_16), (syntax_12, 12, 3, .int qk_14), (r0, 7, 1, .ref syntax_12), (s.heap.size, 11, 2, .int a3)]) [0, 1, 2, 3, 4] rfl rfl (M1 := []) [] rfl rfl (I1 := [(jFun, jUN dC dI ca G_2 0 us (jUf rw (s.heap.size) rr))]) [1] rfl rfl).more hb_286
                  have hNn_28 : (jNk [0, 1, 2, 3, 4, 6, 7, 8, 9, 10, 12, 13, 14, 15, 16, 17, 175]) G0 G_28 := (hNn_2).tr hN_28
                  have hg_30 := hb_282 _ _ hg_4
                  have hg_31 := hb_282 _ _ hg_5
                  have hg_32 := hb_282 _ _ hg_6
                  have hg_33 := hb_282 _ _ hgc_2
                  have hg_34 := hb_282 _ _ hg_syntax_12
                  have hd_35 := jUN.grow (r := 0) (hh_28.iv 0 rfl) hb_282 hW_28 (by decide) (by decide)
                  have hh_36 := hh_28.sub (L1 := [(s.heap.size, 11, 6, .int lemma_21), (syntax_12, 12, 5, .int qw_16), (syntax_12, 12, 3, .int qk_14), (r0, 7, 1, .ref syntax_12), (s.heap.size, 11, 2, .int a3)]) [0, 1, 2, 3, 4] rfl (M1 := []) [] rfl (I1 := []) [] rfl
                  clear hh_28
                  have hh_37 := hh_36.addI (jUN.ie hd_35)
                  clear hh_36
                  have hh_38 := hh_37.addIs hbE_28
                  try simp only at hr_29
                  refine j7_put hx hb hown hK hh_38 hB hAp hB11 (C := RX9) (T := TX9) (N := 9) rfl (by decide) hg_33 (i := 2) (by decide) hly_11_2 rfl hlk_62 rfl (ty := .int) (v := .int r_29) (by decide +kernel) rfl rfl (⟨_, rfl⟩) rfl (L1 := [(s.heap.size, 11, 6, .int lemma_21), (syntax_12, 12, 5, .int qw_16), (syntax_12, 12, 3, .int qk_14), (r0, 7, 1, .ref syntax_12)]) [0, 1, 2, 3] rfl rfl rfl dX5_check_194 (fun H_39 locs_39 hh_39 => ?_)
                  clear hh_38
                  refine lv_aload hx hb dX5_check_197 (lv_at hl 5 rfl) ?_
                  have hsz_40 := hh_39.2.2.2.2.2.1
                  have htt_40 := hh_39.2.2.2.2.2.2.1
                  refine W.room (fun hrc_40 hrs_40 => ?_)
                  refine W.widen (k := LC - s.heap.size) (n := LS - jTot s.heap) (by omega) (by omega) ?_
                  rw [hQ]
                  exact W.aret (v := .ref s.heap.size) hx hb hr (Or.inl ⟨_, rfl⟩) (Or.inr ⟨_, rfl⟩) (fun t ht hW => ⟨⟨.ref s.heap.size, (s.heap.size, G_28), rfl, ⟨⟨_, rfl, hg_33⟩, ⟨rfl, fun z hz e9 => by have h9 := hab9 z hz; omega⟩⟩, ⟨hh_39.ra (by first | (simp only; omega) | omega) (by first | (simp only; omega) | omega) (M1 := []) [] rfl ht, hNn_28, by rw [ht]; exact hh_39.2.2.2.2.2.2.2.2.sub (L1 := [(jFs11, jSef dC dI G_28), (jFun, jUN dC dI ca G_28 0 us (jUf rw (s.heap.size) rr))]) [0, 1] rfl⟩⟩, by rw [ht]; try exact hh_39.1.1, fun q h9 hq => by rw [ht]; try exact hh_39.1.2.1 q h9 hq⟩) hh_39.1.2.2 dX5_check_199
                · skip
                  have c_27' : qw_16.toInt ≤ 8 := jb_gt_n (rfl) ((by decide)) c_27
                  first | (have hr_17pq := hr_17p.resolve_left (by omega); clear hr_17p) | (have hr_17pq := hr_17p.resolve_right (by omega); clear hr_17p) | skip
                  refine lv_aload hx hb dX5_check_172 (lv_at hl 5 rfl) ?_
                  refine lv_aload_n hx hb dX5_check_174 rfl (lv_at hl 1 rfl) ?_
                  refine lv_aload hx hb dX5_check_175 (lv_at hl 5 rfl) ?_
                  have hsz_41 := hh_22.2.2.2.2.2.1
                  have htt_41 := hh_22.2.2.2.2.2.2.1
                  refine W.room (fun hrc_41 hrs_41 => ?_)
                  refine va_calli (A0 := jA base) (H0 := s.heap) (va_runV (As := [.ref s.heap.size]) (rest := [.ref s.heap.size]) ⟨hx, hb, hml, hown, hts⟩ (uX5_leaveProof l dC dI ca base B hB hAp hB5 hB7 hB11 hB12 hB101 hB214 hB280 hB313 G_2 H_22 r0 s.heap.size LC LS) (cwV 1 hts (jgV (jWr_83 _ (List.mem_of_getElem? (i := 14) rfl)) (jWr_83 _ (List.mem_of_getElem? (i := 15) rfl)) (jWr_83 _ (List.mem_of_getElem? (i := 16) rfl)) (jWr_2 _ (List.mem_of_getElem? (i := 4) rfl)) (jWr_83 _ (List.mem_of_getElem? (i := 17) rfl))) rfl rfl rfl (by decide +kernel) ⟨by rw [← hR]; exact Nat.le_of_ble_eq_true rfl, by rw [← hR]; exact Nat.le_of_ble_eq_true rfl⟩) ⟨fun a U g mk q => by obtain ⟨q0, q1, q2, qK, q10, q11, q12, q13, q14, q15, q16, q17⟩ := q; exact ⟨q0, q1, q2, jG.calling g mk a qK, (va_K.moved (Vm.Alike.refl U.vm) q10), (jK5.moved (Vm.Alike.refl U.vm) q11), (jK6.moved (Vm.Alike.refl U.vm) q12), q13, q14, q15, q16, q17⟩, hh_22.recv (C := RX5) (T := TX5) (N := 11) hB7 rfl (by decide) hg_4 hK, fun U hU hW => ⟨rfl, hU, hh_22.2.1, hG.step hW hU hh_22.1, va_K.moved hW.alike hK2, jK5.moved hW.alike hK5, jK6.moved hW.alike hK6, hg_4, hgc_2, jP.nil, (hh_22.2.2.2.2.2.2.2.2.sub (L1 := [(jFs11, jSef dC dI G_2)]) [0] rfl), (by omega), (by omega), trivial⟩⟩ rfl rfl hl.1 rfl (lv_room (Nat.le_of_ble_eq_true rfl)) dX5_check_177 ⟨by rw [hRc]; omega, by rw [hRs]; omega⟩) hh_22.1 (fun q _ h => h) (fun q h => h) (fun r_42 u_41 t_41 H_41 locs_41 ht_41 hvm_41 hr_42 hb_41 hz_41 hk_41 hS_41 => ?_)
                  rw [ht_41] at hb_41
                  obtain ⟨G_41, rfl⟩ : ∃ z, z = u_41 := ⟨_, rfl⟩
                  try simp only at hb_41
                  obtain ⟨⟨hb_411, hb_412, hb_413, hb_414, hb_415, hb_416⟩, hN_41, hbE_41⟩ := hb_41
                  have hM_41 := hN_41
                  have hW_41 := hN_41
                  have hN_41 : (jNk [0, 1, 2, 3, 4, 6, 7, 8, 9, 10, 12, 13, 14, 15, 16, 17, 175]) G_2 G_41 := hN_41.sub (by decide)
                  have hh_41 : jSt (dC, dI) B base G0 G_41 EX5_checkN s.heap (((0 + 1) + (5)) + (4)) (((0 + 9) + (0)) + (60)) [(syntax_12, 12, 5, .int qw_16), (syntax_12, 12, 3, .int qk_14), (r0, 7, 1, .ref syntax_12), (s.heap.size, 11, 2, .int a3)] [] [(jFun, jUN dC dI ca G_2 0 us (jUf rw (s.heap.size) rr))] H_41 locs_41 := (hh_22.callG hb_411 hb_412 hb_413 hb_414 hb_415 hS_41 rfl (L1 := [(syntax_12, 12, 5, .int qw_16), (syntax_12, 12, 3, .int qk_14), (r0, 7, 1, .ref syntax_12), (s.heap.size, 11, 2, .int a3)]) [1, 2, 3, 4] rfl rfl (M1 := []) [] rfl rfl (I1 := [(jFun, jUN dC dI ca G_2 0 us (jUf rw (s.heap.size) rr))]) [1] rfl rfl).more hb_416
                  have hNn_41 : (jNk [0, 1, 2, 3, 4, 6, 7, 8, 9, 10, 12, 13, 14, 15, 16, 17, 175]) G0 G_41 := (hNn_2).tr hN_41
                  have hg_43 := hb_412 _ _ hg_4
                  have hg_44 := hb_412 _ _ hg_5
                  have hg_45 := hb_412 _ _ hg_6
                  have hg_46 := hb_412 _ _ hgc_2
                  have hg_47 := hb_412 _ _ hg_syntax_12
                  have hd_48 := jUN.grow (r := 0) (hh_41.iv 0 rfl) hb_412 hW_41 (by decide) (by decide)
                  have hh_49 := hh_41.sub (L1 := [(syntax_12, 12, 5, .int qw_16), (syntax_12, 12, 3, .int qk_14), (r0, 7, 1, .ref syntax_12), (s.heap.size, 11, 2, .int a3)]) [0, 1, 2, 3] rfl (M1 := []) [] rfl (I1 := []) [] rfl
                  clear hh_41
                  have hh_50 := hh_49.addI (jUN.ie hd_48)
                  clear hh_49
                  have hh_51 := hh_50.addIs hbE_41
                  try simp only at hr_42
                  refine j7_put hx hb hown hK hh_51 hB hAp hB11 (C := RX9) (T := TX9) (N := 9) rfl (by decide) hg_46 (i := 2) (by decide) hly_11_2 rfl hlk_62 rfl (ty := .int) (v := .int r_42) (by decide +kernel) rfl rfl (⟨_, rfl⟩) rfl (L1 := [(syntax_12, 12, 5, .int qw_16), (syntax_12, 12, 3, .int qk_14), (r0, 7, 1, .ref syntax_12)]) [0, 1, 2] rfl rfl rfl dX5_check_180 (fun H_52 locs_52 hh_52 => ?_)
                  clear hh_51
                  refine lv_goto (tgt := 197) hx hb dX5_check_183 (by decide) ?_
                  refine lv_aload hx hb dX5_check_197 (lv_at hl 5 rfl) ?_
                  have hsz_53 := hh_52.2.2.2.2.2.1
                  have htt_53 := hh_52.2.2.2.2.2.2.1
                  refine W.room (fun hrc_53 hrs_53 => ?_)
                  refine W.widen (k := LC - s.heap.size) (n := LS - jTot s.heap) (by omega) (by omega) ?_
                  rw [hQ]
                  exact W.aret (v := .ref s.heap.size) hx hb hr (Or.inl ⟨_, rfl⟩) (Or.inr ⟨_, rfl⟩) (fun t ht hW => ⟨⟨.ref s.heap.size, (s.heap.size, G_41), rfl, ⟨⟨_, rfl, hg_46⟩, ⟨rfl, fun z hz e9 => by have h9 := hab9 z hz; omega⟩⟩, ⟨hh_52.ra (by first | (simp only; omega) | omega) (by first | (simp only; omega) | omega) (M1 := []) [] rfl ht, hNn_41, by rw [ht]; exact hh_52.2.2.2.2.2.2.2.2.sub (L1 := [(jFs11, jSef dC dI G_41), (jFun, jUN dC dI ca G_41 0 us (jUf rw (s.heap.size) rr))]) [0, 1] rfl⟩⟩, by rw [ht]; try exact hh_52.1.1, fun q h9 hq => by rw [ht]; try exact hh_52.1.2.1 q h9 hq⟩) hh_52.1.2.2 dX5_check_199
              · skip
                have c_26' : qw_16.toInt ≤ 6 := jb_gt_n (rfl) ((by decide)) c_26
                first | (have hr_17pq := hr_17p.resolve_left (by omega); clear hr_17p) | (have hr_17pq := hr_17p.resolve_right (by omega); clear hr_17p) | skip
                refine lv_aload hx hb dX5_check_146 (lv_at hl 5 rfl) ?_
                refine lv_aload_n hx hb dX5_check_148 rfl (lv_at hl 1 rfl) ?_
                refine lv_aload hx hb dX5_check_149 (lv_at hl 5 rfl) ?_
                have hsz_54 := hh_22.2.2.2.2.2.1
                have htt_54 := hh_22.2.2.2.2.2.2.1
                refine W.room (fun hrc_54 hrs_54 => ?_)
                refine va_calli (A0 := jA base) (H0 := s.heap) (va_runV (As := [.ref s.heap.size]) (rest := [.ref s.heap.size]) ⟨hx, hb, hml, hown, hts⟩ (uX5_propose l dC dI ca base B hB hAp hB5 hB7 hB11 hB12 hB101 hB214 hB280 hB292 hB313 G_2 H_22 r0 s.heap.size LC LS) (cwV 1 hts (jgV (jWr_82 _ (List.mem_of_getElem? (i := 1) rfl)) (jWr_82 _ (List.mem_of_getElem? (i := 2) rfl)) (jWr_82 _ (List.mem_of_getElem? (i := 3) rfl)) (jWr_2 _ (List.mem_of_getElem? (i := 4) rfl)) (jWr_82 _ (List.mem_of_getElem? (i := 4) rfl))) rfl rfl rfl (by decide +kernel) ⟨by rw [← hR]; exact Nat.le_of_ble_eq_true rfl, by rw [← hR]; exact Nat.le_of_ble_eq_true rfl⟩) ⟨fun a U g mk q => by obtain ⟨q0, q1, q2, qK, q10, q11, q12, q13, q14, q15, q16, q17⟩ := q; exact ⟨q0, q1, q2, jG.calling g mk a qK, (va_K.moved (Vm.Alike.refl U.vm) q10), (jK5.moved (Vm.Alike.refl U.vm) q11), (jK6.moved (Vm.Alike.refl U.vm) q12), q13, q14, q15, q16, q17⟩, hh_22.recv (C := RX5) (T := TX5) (N := 11) hB7 rfl (by decide) hg_4 hK, fun U hU hW => ⟨rfl, hU, hh_22.2.1, hG.step hW hU hh_22.1, va_K.moved hW.alike hK2, jK5.moved hW.alike hK5, jK6.moved hW.alike hK6, hg_4, hgc_2, jP.nil, (hh_22.2.2.2.2.2.2.2.2.sub (L1 := [(jFs11, jSef dC dI G_2)]) [0] rfl), (by omega), (by omega), trivial⟩⟩ rfl rfl hl.1 rfl (lv_room (Nat.le_of_ble_eq_true rfl)) dX5_check_151 ⟨by rw [hRc]; omega, by rw [hRs]; omega⟩) hh_22.1 (fun q _ h => h) (fun q h => h) (fun r_55 u_54 t_54 H_54 locs_54 ht_54 hvm_54 hr_55 hb_54 hz_54 hk_54 hS_54 => ?_)
                rw [ht_54] at hb_54
                obtain ⟨G_54, rfl⟩ : ∃ z, z = u_54 := ⟨_, rfl⟩
                try simp only at hb_54
                obtain ⟨⟨hb_541, hb_542, hb_543, hb_544, hb_545, hb_546⟩, hN_54, hbE_54⟩ := hb_54
                have hM_54 := hN_54
                have hW_54 := hN_54
                have hN_54 : (jNk [0, 1, 2, 3, 4, 6, 7, 8, 9, 10, 12, 13, 14, 15, 16, 17, 175]) G_2 G_54 := hN_54.sub (by decide)
                have hh_54 : jSt (dC, dI) B base G0 G_54 EX5_checkN s.heap (((0 + 1) + (5)) + (8)) (((0 + 9) + (0)) + (160)) [(syntax_12, 12, 5, .int qw_16), (syntax_12, 12, 3, .int qk_14), (r0, 7, 1, .ref syntax_12), (s.heap.size, 11, 2, .int a3)] [] [(jFun, jUN dC dI ca G_2 0 us (jUf rw (s.heap.size) rr))] H_54 locs_54 := (hh_22.callG hb_541 hb_542 hb_543 hb_544 hb_545 hS_54 rfl (L1 := [(syntax_12, 12, 5, .int qw_16), (syntax_12, 12, 3, .int qk_14), (r0, 7, 1, .ref syntax_12), (s.heap.size, 11, 2, .int a3)]) [1, 2, 3, 4] rfl rfl (M1 := []) [] rfl rfl (I1 := [(jFun, jUN dC dI ca G_2 0 us (jUf rw (s.heap.size) rr))]) [1] rfl rfl).more hb_546
                have hNn_54 : (jNk [0, 1, 2, 3, 4, 6, 7, 8, 9, 10, 12, 13, 14, 15, 16, 17, 175]) G0 G_54 := (hNn_2).tr hN_54
                have hg_56 := hb_542 _ _ hg_4
                have hg_57 := hb_542 _ _ hg_5
                have hg_58 := hb_542 _ _ hg_6
                have hg_59 := hb_542 _ _ hgc_2
                have hg_60 := hb_542 _ _ hg_syntax_12
                have hd_61 := jUN.grow (r := 0) (hh_54.iv 0 rfl) hb_542 hW_54 (by decide) (by decide)
                have hh_62 := hh_54.sub (L1 := [(syntax_12, 12, 5, .int qw_16), (syntax_12, 12, 3, .int qk_14), (r0, 7, 1, .ref syntax_12), (s.heap.size, 11, 2, .int a3)]) [0, 1, 2, 3] rfl (M1 := []) [] rfl (I1 := []) [] rfl
                clear hh_54
                have hh_63 := hh_62.addI (jUN.ie hd_61)
                clear hh_62
                have hh_64 := hh_63.addIs hbE_54
                try simp only at hr_55
                refine j7_put hx hb hown hK hh_64 hB hAp hB11 (C := RX9) (T := TX9) (N := 9) rfl (by decide) hg_59 (i := 2) (by decide) hly_11_2 rfl hlk_62 rfl (ty := .int) (v := .int r_55) (by decide +kernel) rfl rfl (⟨_, rfl⟩) rfl (L1 := [(syntax_12, 12, 5, .int qw_16), (syntax_12, 12, 3, .int qk_14), (r0, 7, 1, .ref syntax_12)]) [0, 1, 2] rfl rfl rfl dX5_check_154 (fun H_65 locs_65 hh_65 => ?_)
                clear hh_64
                refine lv_goto (tgt := 197) hx hb dX5_check_157 (by decide) ?_
                refine lv_aload hx hb dX5_check_197 (lv_at hl 5 rfl) ?_
                have hsz_66 := hh_65.2.2.2.2.2.1
                have htt_66 := hh_65.2.2.2.2.2.2.1
                refine W.room (fun hrc_66 hrs_66 => ?_)
                refine W.widen (k := LC - s.heap.size) (n := LS - jTot s.heap) (by omega) (by omega) ?_
                rw [hQ]
                exact W.aret (v := .ref s.heap.size) hx hb hr (Or.inl ⟨_, rfl⟩) (Or.inr ⟨_, rfl⟩) (fun t ht hW => ⟨⟨.ref s.heap.size, (s.heap.size, G_54), rfl, ⟨⟨_, rfl, hg_59⟩, ⟨rfl, fun z hz e9 => by have h9 := hab9 z hz; omega⟩⟩, ⟨hh_65.ra (by first | (simp only; omega) | omega) (by first | (simp only; omega) | omega) (M1 := []) [] rfl ht, hNn_54, by rw [ht]; exact hh_65.2.2.2.2.2.2.2.2.sub (L1 := [(jFs11, jSef dC dI G_54), (jFun, jUN dC dI ca G_54 0 us (jUf rw (s.heap.size) rr))]) [0, 1] rfl⟩⟩, by rw [ht]; try exact hh_65.1.1, fun q h9 hq => by rw [ht]; try exact hh_65.1.2.1 q h9 hq⟩) hh_65.1.2.2 dX5_check_199
            · skip
              have c_25' : qw_16.toInt ≤ 4 := jb_gt_n (rfl) ((by decide)) c_25
              first | (have hr_17pq := hr_17p.resolve_left (by omega); clear hr_17p) | (have hr_17pq := hr_17p.resolve_right (by omega); clear hr_17p) | skip
              refine lv_aload hx hb dX5_check_120 (lv_at hl 5 rfl) ?_
              refine lv_aload_n hx hb dX5_check_122 rfl (lv_at hl 1 rfl) ?_
              refine lv_aload hx hb dX5_check_123 (lv_at hl 5 rfl) ?_
              have hsz_67 := hh_22.2.2.2.2.2.1
              have htt_67 := hh_22.2.2.2.2.2.2.1
              refine W.room (fun hrc_67 hrs_67 => ?_)
              refine va_calli (A0 := jA base) (H0 := s.heap) (va_runV (As := [.ref s.heap.size]) (rest := [.ref s.heap.size]) ⟨hx, hb, hml, hown, hts⟩ (uX5_declare l dC dI ca base B hB hAp hB5 hB7 hB11 hB12 hB101 hB292 G_2 H_22 r0 s.heap.size LC LS) (cwV 1 hts (jgV (jWr_81 _ (List.mem_of_getElem? (i := 4) rfl)) (jWr_81 _ (List.mem_of_getElem? (i := 5) rfl)) (jWr_81 _ (List.mem_of_getElem? (i := 6) rfl)) (jWr_2 _ (List.mem_of_getElem? (i := 4) rfl)) (jWr_81 _ (List.mem_of_getElem? (i := 7) rfl))) rfl rfl rfl (by decide +kernel) ⟨by rw [← hR]; exact Nat.le_of_ble_eq_true rfl, by rw [← hR]; exact Nat.le_of_ble_eq_true rfl⟩) ⟨fun a U g mk q => by obtain ⟨q0, q1, q2, qK, q10, q11, q12, q13⟩ := q; exact ⟨q0, q1, q2, jG.calling g mk a qK, q10, q11, q12, q13⟩, hh_22.recv (C := RX5) (T := TX5) (N := 11) hB7 rfl (by decide) hg_4 hK, fun U hU hW => ⟨rfl, hU, hh_22.2.1, hG.step hW hU hh_22.1, hg_4, hgc_2, jP.nil, (by omega), (by omega), trivial⟩⟩ rfl rfl hl.1 rfl (lv_room (Nat.le_of_ble_eq_true rfl)) dX5_check_125 ⟨by rw [hRc]; omega, by rw [hRs]; omega⟩) hh_22.1 (fun q _ h => h) (fun q h => h) (fun r_68 u_67 t_67 H_67 locs_67 ht_67 hvm_67 hr_68 hb_67 hz_67 hk_67 hS_67 => ?_)
              rw [ht_67] at hb_67
              obtain ⟨G_67, rfl⟩ : ∃ z, z = u_67 := ⟨_, rfl⟩
              try simp only at hb_67
              obtain ⟨⟨hb_671, hb_672, hb_673, hb_674, hb_675, hb_676⟩, hN_67⟩ := hb_67
              have hM_67 := hN_67
              have hW_67 := hN_67
              have hN_67 : (jNk [0, 1, 2, 3, 4, 6, 7, 8, 9, 10, 12, 13, 14, 15, 16, 17, 175]) G_2 G_67 := hN_67.sub (by decide)
              have hh_67 : jSt (dC, dI) B base G0 G_67 EX5_checkN s.heap (((0 + 1) + (5)) + (1)) (((0 + 9) + (0)) + (17)) [(s.heap.size, 11, 6, .int lemma_21), (syntax_12, 12, 5, .int qw_16), (syntax_12, 12, 3, .int qk_14), (r0, 7, 1, .ref syntax_12), (s.heap.size, 11, 2, .int a3)] [] [(jFs11, jSef dC dI G_2), (jFun, jUN dC dI ca G_2 0 us (jUf rw (s.heap.size) rr))] H_67 locs_67 := (hh_22.callG hb_671 hb_672 hb_673 hb_674 hb_675 hS_67 rfl (L1 := [(s.heap.size, 11, 6, .int lemma_21), (syntax_12, 12, 5, .int qw_16), (syntax_12, 12, 3, .int qk_14), (r0, 7, 1, .ref syntax_12), (s.heap.size, 11, 2, .int a3)]) [0, 1, 2, 3, 4] rfl rfl (M1 := []) [] rfl rfl (I1 := [(jFs11, jSef dC dI G_2), (jFun, jUN dC dI ca G_2 0 us (jUf rw (s.heap.size) rr))]) [0, 1] rfl rfl).more hb_676
              have hNn_67 : (jNk [0, 1, 2, 3, 4, 6, 7, 8, 9, 10, 12, 13, 14, 15, 16, 17, 175]) G0 G_67 := (hNn_2).tr hN_67
              have hg_69 := hb_672 _ _ hg_4
              have hg_70 := hb_672 _ _ hg_5
              have hg_71 := hb_672 _ _ hg_6
              have hg_72 := hb_672 _ _ hgc_2
              have hg_73 := hb_672 _ _ hg_syntax_12
              have hd_74 := jSef.grow (hh_67.iv 0 rfl) hb_672 hM_67 (by decide)
              have hh_75 := hh_67.sub (L1 := [(s.heap.size, 11, 6, .int lemma_21), (syntax_12, 12, 5, .int qw_16), (syntax_12, 12, 3, .int qk_14), (r0, 7, 1, .ref syntax_12), (s.heap.size, 11, 2, .int a3)]) [0, 1, 2, 3, 4] rfl (M1 := []) [] rfl (I1 := [(jFun, jUN dC dI ca G_2 0 us (jUf rw (s.heap.size) rr))]) [1] rfl
              clear hh_67
              have hh_76 := hh_75.addI (jSef.ie hd_74)
              clear hh_75
              have hd_77 := jUN.grow (r := 0) (hh_76.iv 1 rfl) hb_672 hW_67 (by decide) (by decide)
              have hh_78 := hh_76.sub (L1 := [(s.heap.size, 11, 6, .int lemma_21), (syntax_12, 12, 5, .int qw_16), (syntax_12, 12, 3, .int qk_14), (r0, 7, 1, .ref syntax_12), (s.heap.size, 11, 2, .int a3)]) [0, 1, 2, 3, 4] rfl (M1 := []) [] rfl (I1 := [(jFs11, jSef dC dI G_67)]) [0] rfl
              clear hh_76
              have hh_79 := hh_78.addI (jUN.ie hd_77)
              clear hh_78
              try simp only at hr_68
              refine j7_put hx hb hown hK hh_79 hB hAp hB11 (C := RX9) (T := TX9) (N := 9) rfl (by decide) hg_72 (i := 2) (by decide) hly_11_2 rfl hlk_62 rfl (ty := .int) (v := .int r_68) (by decide +kernel) rfl rfl (⟨_, rfl⟩) rfl (L1 := [(s.heap.size, 11, 6, .int lemma_21), (syntax_12, 12, 5, .int qw_16), (syntax_12, 12, 3, .int qk_14), (r0, 7, 1, .ref syntax_12)]) [0, 1, 2, 3] rfl rfl rfl dX5_check_128 (fun H_80 locs_80 hh_80 => ?_)
              clear hh_79
              refine lv_goto (tgt := 197) hx hb dX5_check_131 (by decide) ?_
              refine lv_aload hx hb dX5_check_197 (lv_at hl 5 rfl) ?_
              have hsz_81 := hh_80.2.2.2.2.2.1
              have htt_81 := hh_80.2.2.2.2.2.2.1
              refine W.room (fun hrc_81 hrs_81 => ?_)
              refine W.widen (k := LC - s.heap.size) (n := LS - jTot s.heap) (by omega) (by omega) ?_
              rw [hQ]
              exact W.aret (v := .ref s.heap.size) hx hb hr (Or.inl ⟨_, rfl⟩) (Or.inr ⟨_, rfl⟩) (fun t ht hW => ⟨⟨.ref s.heap.size, (s.heap.size, G_67), rfl, ⟨⟨_, rfl, hg_72⟩, ⟨rfl, fun z hz e9 => by have h9 := hab9 z hz; omega⟩⟩, ⟨hh_80.ra (by first | (simp only; omega) | omega) (by first | (simp only; omega) | omega) (M1 := []) [] rfl ht, hNn_67, by rw [ht]; exact hh_80.2.2.2.2.2.2.2.2.sub (L1 := [(jFs11, jSef dC dI G_67), (jFun, jUN dC dI ca G_67 0 us (jUf rw (s.heap.size) rr))]) [1, 0] rfl⟩⟩, by rw [ht]; try exact hh_80.1.1, fun q h9 hq => by rw [ht]; try exact hh_80.1.2.1 q h9 hq⟩) hh_80.1.2.2 dX5_check_199
          · skip
            have c_24' : w0_18.toInt ≠ w0_22.toInt := jb_eq_n (rfl) (rfl) c_24
            refine lv_aload hx hb dX5_check_100 (lv_at hl 5 rfl) ?_
            refine lv_iconst (v := 4) hx hb dX5_check_102 (by decide) ?_
            refine j7_put hx hb hown hK hh_22 hB hAp hB11 (C := RX9) (T := TX9) (N := 9) rfl (by decide) hgc_2 (i := 2) (by decide) hly_11_2 rfl hlk_62 rfl (ty := .int) (v := .int 4) (by decide +kernel) rfl rfl (⟨_, rfl⟩) rfl (L1 := [(s.heap.size, 11, 6, .int lemma_21), (syntax_12, 12, 5, .int qw_16), (syntax_12, 12, 3, .int qk_14), (r0, 7, 1, .ref syntax_12)]) [0, 1, 2, 3] rfl rfl rfl dX5_check_103 (fun H_82 locs_82 hh_82 => ?_)
            clear hh_22
            refine lv_goto (tgt := 197) hx hb dX5_check_106 (by decide) ?_
            refine lv_aload hx hb dX5_check_197 (lv_at hl 5 rfl) ?_
            have hsz_83 := hh_82.2.2.2.2.2.1
            have htt_83 := hh_82.2.2.2.2.2.2.1
            refine W.room (fun hrc_83 hrs_83 => ?_)
            refine W.widen (k := LC - s.heap.size) (n := LS - jTot s.heap) (by omega) (by omega) ?_
            rw [hQ]
            exact W.aret (v := .ref s.heap.size) hx hb hr (Or.inl ⟨_, rfl⟩) (Or.inr ⟨_, rfl⟩) (fun t ht hW => ⟨⟨.ref s.heap.size, (s.heap.size, G_2), rfl, ⟨⟨_, rfl, hgc_2⟩, ⟨rfl, fun z hz e9 => by have h9 := hab9 z hz; omega⟩⟩, ⟨hh_82.ra (by first | (simp only; omega) | omega) (by first | (simp only; omega) | omega) (M1 := []) [] rfl ht, hNn_2, by rw [ht]; exact hh_82.2.2.2.2.2.2.2.2.sub (L1 := [(jFs11, jSef dC dI G_2), (jFun, jUN dC dI ca G_2 0 us (jUf rw (s.heap.size) rr))]) [0, 1] rfl⟩⟩, by rw [ht]; try exact hh_82.1.1, fun q h9 hq => by rw [ht]; try exact hh_82.1.2.1 q h9 hq⟩) hh_82.1.2.2 dX5_check_199
        · skip
          have c_23' : r_17.toInt = 0 := jb_ne_n (rfl) ((by decide)) c_23
          first | (have hr_17pq := hr_17p.resolve_left (by omega); clear hr_17p) | (have hr_17pq := hr_17p.resolve_right (by omega); clear hr_17p) | skip
          refine lv_aload hx hb dX5_check_84 (lv_at hl 5 rfl) ?_
          refine lv_iconst (v := 3) hx hb dX5_check_86 (by decide) ?_
          refine j7_put hx hb hown hK hh_22 hB hAp hB11 (C := RX9) (T := TX9) (N := 9) rfl (by decide) hgc_2 (i := 2) (by decide) hly_11_2 rfl hlk_62 rfl (ty := .int) (v := .int 3) (by decide +kernel) rfl rfl (⟨_, rfl⟩) rfl (L1 := [(s.heap.size, 11, 6, .int lemma_21), (syntax_12, 12, 5, .int qw_16), (syntax_12, 12, 3, .int qk_14), (r0, 7, 1, .ref syntax_12)]) [0, 1, 2, 3] rfl rfl rfl dX5_check_87 (fun H_84 locs_84 hh_84 => ?_)
          clear hh_22
          refine lv_goto (tgt := 197) hx hb dX5_check_90 (by decide) ?_
          refine lv_aload hx hb dX5_check_197 (lv_at hl 5 rfl) ?_
          have hsz_85 := hh_84.2.2.2.2.2.1
          have htt_85 := hh_84.2.2.2.2.2.2.1
          refine W.room (fun hrc_85 hrs_85 => ?_)
          refine W.widen (k := LC - s.heap.size) (n := LS - jTot s.heap) (by omega) (by omega) ?_
          rw [hQ]
          exact W.aret (v := .ref s.heap.size) hx hb hr (Or.inl ⟨_, rfl⟩) (Or.inr ⟨_, rfl⟩) (fun t ht hW => ⟨⟨.ref s.heap.size, (s.heap.size, G_2), rfl, ⟨⟨_, rfl, hgc_2⟩, ⟨rfl, fun z hz e9 => by have h9 := hab9 z hz; omega⟩⟩, ⟨hh_84.ra (by first | (simp only; omega) | omega) (by first | (simp only; omega) | omega) (M1 := []) [] rfl ht, hNn_2, by rw [ht]; exact hh_84.2.2.2.2.2.2.2.2.sub (L1 := [(jFs11, jSef dC dI G_2), (jFun, jUN dC dI ca G_2 0 us (jUf rw (s.heap.size) rr))]) [0, 1] rfl⟩⟩, by rw [ht]; try exact hh_84.1.1, fun q h9 hq => by rw [ht]; try exact hh_84.1.2.1 q h9 hq⟩) hh_84.1.2.2 dX5_check_199
      refine lv_if_lt (tgt := 76) hx hb dX5_check_69 (by decide) (fun c_86 => ?_) (fun c_86 => ?_)
      · skip
        have c_86' : lemma_21.toInt < 0 := jb_lt (rfl) ((by decide)) c_86
        refine lv_iconst (v := 0) hx hb dX5_check_76 (by decide) ?_
        refine W.tight (c2 := ((0 + 1) + (5))) (n2 := ((0 + 9) + (0))) hh_20.2.2.2.2.2.1 hh_20.2.2.2.2.2.2.1 ?_
        exact C77 0 _ _ hh_20 (Or.inl rfl) (trivial) _ (lv_sub hl [1, 2, 3, 4, 5, 6, 0] rfl)
      · skip
        have c_86' : lemma_21.toInt ≥ 0 := jb_lt_n (rfl) ((by decide)) c_86
        refine lv_iconst (v := 1) hx hb dX5_check_72 (by decide) ?_
        refine lv_goto (tgt := 77) hx hb dX5_check_73 (by decide) ?_
        refine W.tight (c2 := ((0 + 1) + (5))) (n2 := ((0 + 9) + (0))) hh_20.2.2.2.2.2.1 hh_20.2.2.2.2.2.2.1 ?_
        exact C77 1 _ _ hh_20 (Or.inr rfl) (trivial) _ (lv_sub hl [1, 2, 3, 4, 5, 6, 0] rfl)
    refine lv_icmp_le (tgt := 61) hx hb dX5_check_54 (by decide) (fun c_87 => ?_) (fun c_87 => ?_)
    · skip
      have c_87' : qw_16.toInt ≤ 6 := jb_le (rfl) ((by decide)) c_87
      first | (have hr_17pq := hr_17p.resolve_left (by omega); clear hr_17p) | (have hr_17pq := hr_17p.resolve_right (by omega); clear hr_17p) | skip
      refine lv_iconst (v := 0) hx hb dX5_check_61 (by decide) ?_
      refine W.tight (c2 := ((0 + 1) + (5))) (n2 := ((0 + 9) + (0))) hh_16.2.2.2.2.2.1 hh_16.2.2.2.2.2.2.1 ?_
      exact C62 0 _ _ hh_16 (Or.inl rfl) (trivial) _ (lv_sub hl [2, 3, 4, 5, 1, 0] rfl)
    · skip
      have c_87' : qw_16.toInt > 6 := jb_le_n (rfl) ((by decide)) c_87
      first | (have hr_17pq := hr_17p.resolve_left (by omega); clear hr_17p) | (have hr_17pq := hr_17p.resolve_right (by omega); clear hr_17p) | skip
      refine lv_iconst (v := 1) hx hb dX5_check_57 (by decide) ?_
      refine lv_goto (tgt := 62) hx hb dX5_check_58 (by decide) ?_
      refine W.tight (c2 := ((0 + 1) + (5))) (n2 := ((0 + 9) + (0))) hh_16.2.2.2.2.2.1 hh_16.2.2.2.2.2.2.1 ?_
      exact C62 1 _ _ hh_16 (Or.inr rfl) (trivial) _ (lv_sub hl [2, 3, 4, 5, 1, 0] rfl)
  · skip
    have c_9' : a3.toInt > 0 := jb_le_n (rfl) ((by decide)) c_9
    refine lv_aload hx hb dX5_check_21 (lv_at hl 0 rfl) ?_
    have hsz_88 := hh_8.2.2.2.2.2.1
    have htt_88 := hh_8.2.2.2.2.2.2.1
    refine W.room (fun hrc_88 hrs_88 => ?_)
    refine W.widen (k := LC - s.heap.size) (n := LS - jTot s.heap) (by omega) (by omega) ?_
    rw [hQ]
    exact W.aret (v := .ref s.heap.size) hx hb hr (Or.inl ⟨_, rfl⟩) (Or.inr ⟨_, rfl⟩) (fun t ht hW => ⟨⟨.ref s.heap.size, (s.heap.size, G_2), rfl, ⟨⟨_, rfl, hgc_2⟩, ⟨rfl, fun z hz e9 => by have h9 := hab9 z hz; omega⟩⟩, ⟨hh_8.ra (by first | (simp only; omega) | omega) (by first | (simp only; omega) | omega) (M1 := []) [] rfl ht, hNn_2, by rw [ht]; exact hh_8.2.2.2.2.2.2.2.2.sub (L1 := [(jFs11, jSef dC dI G_2), (jFun, jUN dC dI ca G_2 0 us (jUf rw (s.heap.size) rr))]) [0, 1] rfl⟩⟩, by rw [ht]; try exact hh_8.1.1, fun q h9 hq => by rw [ht]; try exact hh_8.1.2.1 q h9 hq⟩) hh_8.1.2.2 dX5_check_23
end
