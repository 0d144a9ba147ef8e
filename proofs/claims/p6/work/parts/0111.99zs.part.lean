section
theorem dX5_part_0 : decode cX5_part 0 = .ok (.iload_n 1, 1) := by decide +kernel
theorem dX5_part_1 : decode cX5_part 1 = .ok (.ifCond .lt 14, 3) := by decide +kernel
theorem dX5_part_4 : decode cX5_part 4 = .ok (.iload_n 2, 1) := by decide +kernel
theorem dX5_part_5 : decode cX5_part 5 = .ok (.iload_n 1, 1) := by decide +kernel
theorem dX5_part_6 : decode cX5_part 6 = .ok (.if_icmp .lt 9, 3) := by decide +kernel
theorem dX5_part_9 : decode cX5_part 9 = .ok (.iload_n 2, 1) := by decide +kernel
theorem dX5_part_10 : decode cX5_part 10 = .ok (.aload_n 0, 1) := by decide +kernel
theorem dX5_part_11 : decode cX5_part 11 = .ok (.arraylength, 1) := by decide +kernel
theorem dX5_part_12 : decode cX5_part 12 = .ok (.if_icmp .le 9, 3) := by decide +kernel
theorem dX5_part_15 : decode cX5_part 15 = .ok (.iconst 0, 1) := by decide +kernel
theorem dX5_part_16 : decode cX5_part 16 = .ok (.newarray .int, 2) := by decide +kernel
theorem dX5_part_18 : decode cX5_part 18 = .ok (.goto 9, 3) := by decide +kernel
theorem dX5_part_21 : decode cX5_part 21 = .ok (.aload_n 0, 1) := by decide +kernel
theorem dX5_part_22 : decode cX5_part 22 = .ok (.iload_n 1, 1) := by decide +kernel
theorem dX5_part_23 : decode cX5_part 23 = .ok (.iload_n 2, 1) := by decide +kernel
theorem dX5_part_24 : decode cX5_part 24 = .ok (.invokestatic 288, 3) := by decide +kernel
theorem dX5_part_27 : decode cX5_part 27 = .ok (.areturn, 1) := by decide +kernel
theorem dJ7_checkLength_df160_0 : decode cJ7_checkLength_df160 0 = .ok (.iload_n 1, 1) := by decide +kernel
theorem dJ7_checkLength_df160_1 : decode cJ7_checkLength_df160 1 = .ok (.iload_n 0, 1) := by decide +kernel
theorem dJ7_checkLength_df160_2 : decode cJ7_checkLength_df160 2 = .ok (.if_icmp .ge 35, 3) := by decide +kernel
theorem dJ7_checkLength_df160_37 : decode cJ7_checkLength_df160 37 = .ok (.return_, 1) := by decide +kernel
theorem dJ7_copyOfRange_feecc_0 : decode cJ7_copyOfRange_feecc 0 = .ok (.iload_n 1, 1) := by decide +kernel
theorem dJ7_copyOfRange_feecc_1 : decode cJ7_copyOfRange_feecc 1 = .ok (.ifCond .ne 9, 3) := by decide +kernel
theorem dJ7_copyOfRange_feecc_4 : decode cJ7_copyOfRange_feecc 4 = .ok (.iload_n 2, 1) := by decide +kernel
theorem dJ7_copyOfRange_feecc_5 : decode cJ7_copyOfRange_feecc 5 = .ok (.aload_n 0, 1) := by decide +kernel
theorem dJ7_copyOfRange_feecc_6 : decode cJ7_copyOfRange_feecc 6 = .ok (.arraylength, 1) := by decide +kernel
theorem dJ7_copyOfRange_feecc_7 : decode cJ7_copyOfRange_feecc 7 = .ok (.if_icmp .eq 10, 3) := by decide +kernel
theorem dJ7_copyOfRange_feecc_10 : decode cJ7_copyOfRange_feecc 10 = .ok (.aload_n 0, 1) := by decide +kernel
theorem dJ7_copyOfRange_feecc_11 : decode cJ7_copyOfRange_feecc 11 = .ok (.iload_n 1, 1) := by decide +kernel
theorem dJ7_copyOfRange_feecc_12 : decode cJ7_copyOfRange_feecc 12 = .ok (.iload_n 2, 1) := by decide +kernel
theorem dJ7_copyOfRange_feecc_13 : decode cJ7_copyOfRange_feecc 13 = .ok (.invokestatic 351, 3) := by decide +kernel
theorem dJ7_copyOfRange_feecc_16 : decode cJ7_copyOfRange_feecc 16 = .ok (.areturn, 1) := by decide +kernel
theorem dJ7_copyOfRange_feecc_17 : decode cJ7_copyOfRange_feecc 17 = .ok (.aload_n 0, 1) := by decide +kernel
theorem dJ7_copyOfRange_feecc_18 : decode cJ7_copyOfRange_feecc 18 = .ok (.invokevirtual 316, 3) := by decide +kernel
theorem dJ7_copyOfRange_feecc_21 : decode cJ7_copyOfRange_feecc 21 = .ok (.checkcast 317, 3) := by decide +kernel
theorem dJ7_copyOfRange_feecc_24 : decode cJ7_copyOfRange_feecc 24 = .ok (.areturn, 1) := by decide +kernel
theorem dJ7_copyOfRangeInt_feecc_0 : decode cJ7_copyOfRangeInt_feecc 0 = .ok (.iload_n 1, 1) := by decide +kernel
theorem dJ7_copyOfRangeInt_feecc_1 : decode cJ7_copyOfRangeInt_feecc 1 = .ok (.iload_n 2, 1) := by decide +kernel
theorem dJ7_copyOfRangeInt_feecc_2 : decode cJ7_copyOfRangeInt_feecc 2 = .ok (.invokestatic 343, 3) := by decide +kernel
theorem dJ7_copyOfRangeInt_feecc_5 : decode cJ7_copyOfRangeInt_feecc 5 = .ok (.iload_n 2, 1) := by decide +kernel
theorem dJ7_copyOfRangeInt_feecc_6 : decode cJ7_copyOfRangeInt_feecc 6 = .ok (.iload_n 1, 1) := by decide +kernel
theorem dJ7_copyOfRangeInt_feecc_7 : decode cJ7_copyOfRangeInt_feecc 7 = .ok (.isub, 1) := by decide +kernel
theorem dJ7_copyOfRangeInt_feecc_8 : decode cJ7_copyOfRangeInt_feecc 8 = .ok (.istore_n 3, 1) := by decide +kernel
theorem dJ7_copyOfRangeInt_feecc_9 : decode cJ7_copyOfRangeInt_feecc 9 = .ok (.iload_n 3, 1) := by decide +kernel
theorem dJ7_copyOfRangeInt_feecc_10 : decode cJ7_copyOfRangeInt_feecc 10 = .ok (.newarray .int, 2) := by decide +kernel
theorem dJ7_copyOfRangeInt_feecc_12 : decode cJ7_copyOfRangeInt_feecc 12 = .ok (.astore 4, 2) := by decide +kernel
theorem dJ7_copyOfRangeInt_feecc_14 : decode cJ7_copyOfRangeInt_feecc 14 = .ok (.aload_n 0, 1) := by decide +kernel
theorem dJ7_copyOfRangeInt_feecc_15 : decode cJ7_copyOfRangeInt_feecc 15 = .ok (.iload_n 1, 1) := by decide +kernel
theorem dJ7_copyOfRangeInt_feecc_16 : decode cJ7_copyOfRangeInt_feecc 16 = .ok (.aload 4, 2) := by decide +kernel
theorem dJ7_copyOfRangeInt_feecc_18 : decode cJ7_copyOfRangeInt_feecc 18 = .ok (.iconst 0, 1) := by decide +kernel
theorem dJ7_copyOfRangeInt_feecc_19 : decode cJ7_copyOfRangeInt_feecc 19 = .ok (.aload_n 0, 1) := by decide +kernel
theorem dJ7_copyOfRangeInt_feecc_20 : decode cJ7_copyOfRangeInt_feecc 20 = .ok (.arraylength, 1) := by decide +kernel
theorem dJ7_copyOfRangeInt_feecc_21 : decode cJ7_copyOfRangeInt_feecc 21 = .ok (.iload_n 1, 1) := by decide +kernel
theorem dJ7_copyOfRangeInt_feecc_22 : decode cJ7_copyOfRangeInt_feecc 22 = .ok (.isub, 1) := by decide +kernel
theorem dJ7_copyOfRangeInt_feecc_23 : decode cJ7_copyOfRangeInt_feecc 23 = .ok (.iload_n 3, 1) := by decide +kernel
theorem dJ7_copyOfRangeInt_feecc_24 : decode cJ7_copyOfRangeInt_feecc 24 = .ok (.invokestatic 304, 3) := by decide +kernel
theorem dJ7_copyOfRangeInt_feecc_27 : decode cJ7_copyOfRangeInt_feecc 27 = .ok (.invokestatic 150, 3) := by decide +kernel
theorem dJ7_copyOfRangeInt_feecc_30 : decode cJ7_copyOfRangeInt_feecc 30 = .ok (.aload 4, 2) := by decide +kernel
theorem dJ7_copyOfRangeInt_feecc_32 : decode cJ7_copyOfRangeInt_feecc 32 = .ok (.areturn, 1) := by decide +kernel
def EJ7_copyOf_59c91P : List (Nat × Nat) := []
def EJ7_checkLength_df160 : List (Nat × Nat) := []
def EJ7_copyOfRangeInt_feecc : List (Nat × Nat) := []
def EJ7_copyOfRange_feecc : List (Nat × Nat) := []
def EX5_part : List (Nat × Nat) := []
set_option maxHeartbeats 4000000 in
set_option maxRecDepth 20000 in
theorem uJ7_copyOf_59c91P (l : Launch) (dC : Nat → ClassId) (dI : Nat → Nat → Nat) (ca : Nat → ClassId) (base : Nat) (B : jF) (hB : jBok B) (hAp : jAp (dC, dI)) (hB280 : ∀ n G a H, B 280 n G a H ↔ jAr (dC, dI) (ca 1) (fun j z => -1 ≤ z.toInt) n a H) (G0 : jT) (H0 : Heap) (r0 : Nat) (a1 : Int32) (n0 : Nat) (LC LS : Nat) : Met l yJ7_copyOf_59c91 (jw yJ7_copyOf_59c91 cJ7_copyOf_59c91 3 (some (.array .int))) ({ frames := 1, cells := LC - H0.size, slots := LS - jTot H0, locals := 61 }) (va_Pc [.ref r0, .int a1] (fun U => U.heap = H0 ∧ jX B base G0 [] H0 ∧ jG dC dI ca base U ∧ G0 r0 = some (280, n0) ∧ jP (dC, dI) G0 H0 [] ∧ H0.size + 1 ≤ LC ∧ jTot H0 + a1.toInt.toNat ≤ LS ∧ 0 ≤ a1.toInt ∧ a1.toInt ≤ 3000 ∧ n0 ≤ 3000 ∧ a1.toInt ≠ n0)) (jQx (S := Nat × jT) (fun v u => jRf u.2 280 u.1 v ∧ jNwv v H0 ∧ u.1 = a1.toInt) (fun u t => jRa (dC, dI) B base G0 u.2 EJ7_copyOf_59c91P H0 (1) (u.1) [] t.heap ∧ (jNk [0, 1, 2, 3, 4, 5, 6, 7, 8, 9, 10, 11, 12, 13, 14, 15, 16, 17, 175]) G0 u.2 ∧ jKe G0 u.2 H0 t.heap) (jA base)) (LC - H0.size) (LS - jTot H0) (jA base) := by
  refine Met.ofW (cc := cJ7_copyOf_59c91) (maxL := 3) (ret := (some (.array .int))) (by decide) rfl ?_
  intro p e s m args below meth c s₁ Bd hml hv
  obtain ⟨rfl, hH0, hX, hG, hg_r0, hP0, hLC0, hLS0, hp0, hp1, hp2, hp3⟩ := hv
  have hK := hG.1
  have hx := Bd.exec
  have hb := Bd.bytes
  have hr := Bd.returns
  have hts := atoms_spec (ws := (jw yJ7_copyOf_59c91 cJ7_copyOf_59c91 3 (some (.array .int)))) Bd.pre
  have htw : ∀ w ∈ jWl, w.before _ s = true := fun w h => hts w (List.mem_cons_of_mem _ h)
  have hown : s.vm.findClass RJ7 = some m.cls := findClass_of_methodNamed Bd.named
  have hlocks := Bd.notSynchronized
  obtain ⟨Q, hQ⟩ : ∃ Q, Q = MQ below (jQx (S := Nat × jT) (fun v u => jRf u.2 280 u.1 v ∧ jNwv v H0 ∧ u.1 = a1.toInt) (fun u t => jRa (dC, dI) B base G0 u.2 EJ7_copyOf_59c91P H0 (1) (u.1) [] t.heap ∧ (jNk [0, 1, 2, 3, 4, 5, 6, 7, 8, 9, 10, 11, 12, 13, 14, 15, 16, 17, 175]) G0 u.2 ∧ jKe G0 u.2 H0 t.heap) (jA base)) ([.ref r0, .int a1] : List Value).toArray s (LC - H0.size) (LS - jTot H0) (jA base) := ⟨_, rfl⟩
  rw [← hQ]
  have hl := lv_entry ([.ref r0, .int a1]) (n := 3) (Nat.le_of_ble_eq_true rfl)
  rw [lg_entry_eq]
  generalize (lg_sl ([.ref r0, .int a1]) ++ List.replicate (3 - (lg_sl ([.ref r0, .int a1])).length) Slot.unset).toArray = ls at hl ⊢
  have hl : lv_has ls 3 [(0, .ref r0), (1, .int a1)] := hl
  generalize hR : (headSpec (jw yJ7_copyOf_59c91 cJ7_copyOf_59c91 3 (some (.array .int))) ({ frames := 1, cells := LC - H0.size, slots := LS - jTot H0, locals := 61 })).room = R
  subst hH0
  have hh : jSt (dC, dI) B base G0 G0 EJ7_copyOf_59c91P s.heap 0 0 [] [] [] s.heap [] := jSt.start hX hP0 jMc.nil jIs.nil
  clear hX hP0
  have hk0 : (0 : Int32).toInt = 0 := by decide
  have hk1 : (1 : Int32).toInt = 1 := by decide
  have hrg_a1 := jb_rng a1
  have hbs : base ≤ s.heap.size := Nat.le_of_lt (Nat.lt_of_le_of_lt (hh.ab hg_r0).1 (hh.ab hg_r0).2)
  have hRc : R.cells = LC - s.heap.size := by rw [← hR]; rfl
  have hRs : R.slots = LS - jTot s.heap := by rw [← hR]; rfl
  have hkp : jKe G0 G0 s.heap s.heap := jKe.rf
  refine lv_iload_n hx hb dJ7_copyOf_59c91_0 rfl (lv_at hl 1 rfl) ?_
  refine lv_aload_n hx hb dJ7_copyOf_59c91_1 rfl (lv_at hl 0 rfl) ?_
  refine j7_len hx hb hK hh hB280 1 rfl (by decide) hg_r0 (by omega) dJ7_copyOf_59c91_2 (fun z_1 hz_1 => ?_)
  refine lv_icmp_ne (tgt := 14) hx hb dJ7_copyOf_59c91_3 (by decide) (fun c_2 => ?_) (fun c_2 => ?_)
  · skip
    have c_2' : a1.toInt ≠ z_1.toInt := jb_ne (rfl) (rfl) c_2
    refine lv_iload_n hx hb dJ7_copyOf_59c91_14 rfl (lv_at hl 1 rfl) ?_
    have hsz_3 := hh.2.2.2.2.2.1
    have htt_3 := hh.2.2.2.2.2.2.1
    have hsy_3 : s.heap.size ≤ s.heap.size := hh.1.1
    refine j7_newiR hx hb hK hh hB (atype := .int) (ty := .int) (htw (.arrayClass .int) (jWr_3 _ (List.mem_of_getElem? (i := 20) rfl))) rfl rfl (fun _ h => h) 1 rfl (by decide) (x := a1.toInt) rfl (by omega) (by rw [hRc]; omega) (by rw [hRs]; omega) dJ7_copyOf_59c91_15 (fun H_3 hfr_3 hnr_3 hraw_3 hh_3 => ?_)
    have hke_3 : jKe G0 G0 s.heap H_3 := jKe.raw hfr_3
    have hbr_3 : base ≤ s.heap.size := Nat.le_trans hbs hsy_3
    obtain ⟨nq_3, hnq_3⟩ : ∃ q : Nat, q = (a1.toInt).toNat := ⟨_, rfl⟩
    rw [← hnq_3] at hraw_3 hh_3 ⊢
    clear hh
    have hkp_4 := hkp.tr hke_3
    refine lv_astore_n (lv' := [(2, .ref s.heap.size), (0, .ref r0), (1, .int a1)]) hx hb dJ7_copyOf_59c91_17 rfl hl (by decide) rfl (fun ls hl => ?_)
    refine lv_aload_n hx hb dJ7_copyOf_59c91_18 rfl (lv_at hl 1 rfl) ?_
    refine lv_iconst (v := 0) hx hb dJ7_copyOf_59c91_19 (by decide) ?_
    refine lv_aload_n hx hb dJ7_copyOf_59c91_20 rfl (lv_at hl 0 rfl) ?_
    refine lv_iconst (v := 0) hx hb dJ7_copyOf_59c91_21 (by decide) ?_
    refine lv_aload_n hx hb dJ7_copyOf_59c91_22 rfl (lv_at hl 1 rfl) ?_
    refine j7_len hx hb hK hh_3 hB280 1 rfl (by decide) hg_r0 (by omega) dJ7_copyOf_59c91_23 (fun z_5 hz_5 => ?_)
    refine lv_iload_n hx hb dJ7_copyOf_59c91_24 rfl (lv_at hl 2 rfl) ?_
    have hsz_6 := hh_3.2.2.2.2.2.1
    have htt_6 := hh_3.2.2.2.2.2.2.1
    refine W.room (fun hrc_6 hrs_6 => ?_)
    refine va_mmin hx hb (by rw [hml]; exact hl.1.symm) hown (htw (.methodLink RJ7 304 Lib.Math.min.name) (jWr_16 _ (List.mem_of_getElem? (i := 15) rfl))) (htw (.static Lib.Math.min.name) (jWr_16 _ (List.mem_of_getElem? (i := 16) rfl))) (htw (.initialized "java/lang/Math") (jWr_3 _ (List.mem_of_getElem? (i := 7) rfl))) (htw (.code Lib.Math.min.name Lib.Math.min.code 2 (some .int)) (jWr_16 _ (List.mem_of_getElem? (i := 17) rfl))) (by rw [← hR]; exact Nat.le_of_ble_eq_true rfl) (by rw [← hR]; exact Nat.le_of_ble_eq_true rfl) (by rw [hRc]; omega) (by rw [hRs]; omega) dJ7_copyOf_59c91_25 ?_
    refine lv_topi (fun z_7 ez_7 => ?_)
    have hz_7 := jb_min ez_7
    refine j7_acopyR hx hb (by rw [hml]; exact hl.1.symm) hown (htw (.methodLink RJ7 150 arraycopyName) (jWr_16 _ (List.mem_of_getElem? (i := 18) rfl))) (htw (.native arraycopyName) (jWr_16 _ (List.mem_of_getElem? (i := 19) rfl))) (htw (.static arraycopyName) (jWr_16 _ (List.mem_of_getElem? (i := 20) rfl))) (htw (.initialized "java/lang/System") (jWr_16 _ (List.mem_of_getElem? (i := 21) rfl))) hK hh_3 hB hB280 1 rfl (by decide) hg_r0 hraw_3 hnr_3 hbr_3 (x := 0) (y := 0) (z := z_7.toInt) (by decide) (by decide) rfl (by omega) (by rw [← hR]; exact Nat.le_of_ble_eq_true rfl) (by rw [← hR]; exact Nat.le_of_ble_eq_true rfl) dJ7_copyOf_59c91_28 (fun H_8 locs_8 g_8 hraw_8 hc_8 hr_8 hh_8 => ?_)
    have hkp_9 := hkp_4.st hsy_3 hr_8
    clear hr_8
    clear hh_3
    refine lv_aload_n hx hb dJ7_copyOf_59c91_31 rfl (lv_at hl 0 rfl) ?_
    have hsz_10 := hh_8.2.2.2.2.2.1
    have htt_10 := hh_8.2.2.2.2.2.2.1
    refine W.room (fun hrc_10 hrs_10 => ?_)
    refine W.widen (k := LC - s.heap.size) (n := LS - jTot s.heap) (by omega) (by omega) ?_
    rw [hQ]
    have hle_11 : jLe G0 (va_up G0 s.heap.size (some (280, nq_3))) := jLe.typ hnr_3
    have hh_11 := hh_8.typ (k := 280) (n := nq_3) hB hnr_3 hbr_3 hraw_8.lt (jAr.of hB280 hraw_8 (fun j _ => (jFp.cpy jFp.zero hc_8) j))
    have hgn_11 : (va_up G0 s.heap.size (some (280, nq_3))) s.heap.size = some (280, nq_3) := jUp_self
    have hN_11 : (jNk [0, 1, 2, 3, 4, 5, 6, 7, 8, 9, 10, 11, 12, 13, 14, 15, 16, 17, 175]) G0 (va_up G0 s.heap.size (some (280, nq_3))) := jNk.new (by decide)
    have hNn_11 : (jNk [0, 1, 2, 3, 4, 5, 6, 7, 8, 9, 10, 11, 12, 13, 14, 15, 16, 17, 175]) G0 (va_up G0 s.heap.size (some (280, nq_3))) := (jNk.rf).tr hN_11
    have hkp_12 := hkp_9.typn (t := some (280, nq_3)) hsy_3
    exact W.aret (v := .ref s.heap.size) hx hb hr (Or.inr ⟨_, rfl⟩) (Or.inr ⟨_, rfl⟩) (fun t ht hW => ⟨⟨.ref s.heap.size, (nq_3, (va_up G0 s.heap.size (some (280, nq_3)))), rfl, ⟨⟨_, rfl, hgn_11⟩, ⟨_, rfl, hsy_3⟩, by (try dsimp only); first | omega | rfl | assumption | fail⟩, ⟨hh_11.ra (by first | omega | (simp only; omega)) (by first | omega | (simp only; omega)) (M1 := []) [] rfl ht, hNn_11, by rw [ht]; exact hkp_12⟩⟩, by rw [ht]; try exact hh_11.1.1, fun q h9 hq => by rw [ht]; try exact hh_11.1.2.1 q h9 hq⟩) hh_11.1.2.2 dJ7_copyOf_59c91_32
  · skip
    have c_2' : a1.toInt = z_1.toInt := jb_ne_n (rfl) (rfl) c_2
    exact absurd c_2' (by omega)
set_option maxHeartbeats 4000000 in
set_option maxRecDepth 20000 in
theorem uJ7_checkLength_df160 (l : Launch) (dC : Nat → ClassId) (dI : Nat → Nat → Nat) (ca : Nat → ClassId) (base : Nat) (B : jF) (hB : jBok B) (hAp : jAp (dC, dI)) (G0 : jT) (H0 : Heap) (a0 : Int32) (a1 : Int32) : Met l yJ7_checkLength_df160 (jw yJ7_checkLength_df160 cJ7_checkLength_df160 2 none) ({ frames := 0, cells := 0, slots := 0, locals := 0 }) (va_Pc [.int a0, .int a1] (fun U => U.heap = H0 ∧ jX B base G0 [] H0 ∧ jG dC dI ca base U ∧ jP (dC, dI) G0 H0 [] ∧ a0.toInt ≤ a1.toInt)) (va_Qv (S := Unit) (fun u => True) (fun u t => (jRt (dC, dI) B base G0 EJ7_checkLength_df160 H0 [] t.heap) ∧ jKl [] H0 t.heap) (jA base)) 0 0 (jA base) := by
  refine Met.ofW (cc := cJ7_checkLength_df160) (maxL := 2) (ret := none) (by decide) rfl ?_
  intro p e s m args below meth c s₁ Bd hml hv
  obtain ⟨rfl, hH0, hX, hG, hP0, hp0⟩ := hv
  have hK := hG.1
  have hx := Bd.exec
  have hb := Bd.bytes
  have hr := Bd.returns
  have hts := atoms_spec (ws := (jw yJ7_checkLength_df160 cJ7_checkLength_df160 2 none)) Bd.pre
  have htw : ∀ w ∈ jWl, w.before _ s = true := fun w h => hts w (List.mem_cons_of_mem _ h)
  have hown : s.vm.findClass RJ7 = some m.cls := findClass_of_methodNamed Bd.named
  have hlocks := Bd.notSynchronized
  obtain ⟨Q, hQ⟩ : ∃ Q, Q = MQ below (va_Qv (S := Unit) (fun u => True) (fun u t => (jRt (dC, dI) B base G0 EJ7_checkLength_df160 H0 [] t.heap) ∧ jKl [] H0 t.heap) (jA base)) ([.int a0, .int a1] : List Value).toArray s 0 0 (jA base) := ⟨_, rfl⟩
  rw [← hQ]
  have hl := lv_entry ([.int a0, .int a1]) (n := 2) (Nat.le_of_ble_eq_true rfl)
  rw [lg_entry_eq]
  generalize (lg_sl ([.int a0, .int a1]) ++ List.replicate (2 - (lg_sl ([.int a0, .int a1])).length) Slot.unset).toArray = ls at hl ⊢
  have hl : lv_has ls 2 [(0, .int a0), (1, .int a1)] := hl
  generalize hR : (headSpec (jw yJ7_checkLength_df160 cJ7_checkLength_df160 2 none) ({ frames := 0, cells := 0, slots := 0, locals := 0 })).room = R
  subst hH0
  have hh : jSt (dC, dI) B base G0 G0 EJ7_checkLength_df160 s.heap 0 0 [] [] [] s.heap [] := jSt.start hX hP0 jMc.nil jIs.nil
  clear hX hP0
  have hk0 : (0 : Int32).toInt = 0 := by decide
  have hk1 : (1 : Int32).toInt = 1 := by decide
  have hrg_a0 := jb_rng a0
  have hrg_a1 := jb_rng a1
  have hfl : jKl [] s.heap s.heap := jKl.rf
  refine lv_iload_n hx hb dJ7_checkLength_df160_0 rfl (lv_at hl 1 rfl) ?_
  refine lv_iload_n hx hb dJ7_checkLength_df160_1 rfl (lv_at hl 0 rfl) ?_
  refine lv_icmp_ge (tgt := 37) hx hb dJ7_checkLength_df160_2 (by decide) (fun c_1 => ?_) (fun c_1 => ?_)
  · skip
    have c_1' : a1.toInt ≥ a0.toInt := jb_ge (rfl) (rfl) c_1
    rw [hQ]
    exact W.vret hx hb hr (fun t ht hW => ⟨⟨(), rfl, trivial, ⟨hh.rt (M1 := []) [] rfl ht, by rw [ht]; exact hfl⟩⟩, by rw [ht]; try exact hh.1.1, fun q h9 hq => by rw [ht]; try exact hh.1.2.1 q h9 hq⟩) hh.1.2.2 dJ7_checkLength_df160_37
  · skip
    have c_1' : a1.toInt < a0.toInt := jb_ge_n (rfl) (rfl) c_1
    exact absurd c_1' (by omega)
set_option maxHeartbeats 4000000 in
set_option maxRecDepth 20000 in
theorem uJ7_copyOfRangeInt_feecc (l : Launch) (dC : Nat → ClassId) (dI : Nat → Nat → Nat) (ca : Nat → ClassId) (base : Nat) (B : jF) (hB : jBok B) (hAp : jAp (dC, dI)) (hB280 : ∀ n G a H, B 280 n G a H ↔ jAr (dC, dI) (ca 1) (fun j z => -1 ≤ z.toInt) n a H) (G0 : jT) (H0 : Heap) (r0 : Nat) (a1 : Int32) (a2 : Int32) (n0 : Nat) (LC LS : Nat) : Met l yJ7_copyOfRangeInt_feecc (jw yJ7_copyOfRangeInt_feecc cJ7_copyOfRangeInt_feecc 5 (some (.array .int))) ({ frames := 1, cells := LC - H0.size, slots := LS - jTot H0, locals := 61 }) (va_Pc [.ref r0, .int a1, .int a2] (fun U => U.heap = H0 ∧ jX B base G0 [] H0 ∧ jG dC dI ca base U ∧ G0 r0 = some (280, n0) ∧ jP (dC, dI) G0 H0 [] ∧ H0.size + 1 ≤ LC ∧ jTot H0 + (a2.toInt - a1.toInt).toNat ≤ LS ∧ 1 ≤ a1.toInt ∧ a1.toInt ≤ a2.toInt ∧ a2.toInt ≤ n0 ∧ n0 ≤ 3000)) (jQx (S := Nat × jT) (fun v u => jRf u.2 280 u.1 v ∧ jNwv v H0 ∧ u.1 = a2.toInt - a1.toInt) (fun u t => jRa (dC, dI) B base G0 u.2 EJ7_copyOfRangeInt_feecc H0 (1) (u.1) [] t.heap ∧ (jNk [0, 1, 2, 3, 4, 5, 6, 7, 8, 9, 10, 11, 12, 13, 14, 15, 16, 17, 175]) G0 u.2 ∧ jKe G0 u.2 H0 t.heap) (jA base)) (LC - H0.size) (LS - jTot H0) (jA base) := by
  refine Met.ofW (cc := cJ7_copyOfRangeInt_feecc) (maxL := 5) (ret := (some (.array .int))) (by decide) rfl ?_
  intro p e s m args below meth c s₁ Bd hml hv
  obtain ⟨rfl, hH0, hX, hG, hg_r0, hP0, hLC0, hLS0, hp0, hp1, hp2, hp3⟩ := hv
  have hK := hG.1
  have hx := Bd.exec
  have hb := Bd.bytes
  have hr := Bd.returns
  have hts := atoms_spec (ws := (jw yJ7_copyOfRangeInt_feecc cJ7_copyOfRangeInt_feecc 5 (some (.array .int)))) Bd.pre
  have htw : ∀ w ∈ jWl, w.before _ s = true := fun w h => hts w (List.mem_cons_of_mem _ h)
  have hown : s.vm.findClass RJ7 = some m.cls := findClass_of_methodNamed Bd.named
  have hlocks := Bd.notSynchronized
  obtain ⟨Q, hQ⟩ : ∃ Q, Q = MQ below (jQx (S := Nat × jT) (fun v u => jRf u.2 280 u.1 v ∧ jNwv v H0 ∧ u.1 = a2.toInt - a1.toInt) (fun u t => jRa (dC, dI) B base G0 u.2 EJ7_copyOfRangeInt_feecc H0 (1) (u.1) [] t.heap ∧ (jNk [0, 1, 2, 3, 4, 5, 6, 7, 8, 9, 10, 11, 12, 13, 14, 15, 16, 17, 175]) G0 u.2 ∧ jKe G0 u.2 H0 t.heap) (jA base)) ([.ref r0, .int a1, .int a2] : List Value).toArray s (LC - H0.size) (LS - jTot H0) (jA base) := ⟨_, rfl⟩
  rw [← hQ]
  have hl := lv_entry ([.ref r0, .int a1, .int a2]) (n := 5) (Nat.le_of_ble_eq_true rfl)
  rw [lg_entry_eq]
  generalize (lg_sl ([.ref r0, .int a1, .int a2]) ++ List.replicate (5 - (lg_sl ([.ref r0, .int a1, .int a2])).length) Slot.unset).toArray = ls at hl ⊢
  have hl : lv_has ls 5 [(0, .ref r0), (1, .int a1), (2, .int a2)] := hl
  generalize hR : (headSpec (jw yJ7_copyOfRangeInt_feecc cJ7_copyOfRangeInt_feecc 5 (some (.array .int))) ({ frames := 1, cells := LC - H0.size, slots := LS - jTot H0, locals := 61 })).room = R
  subst hH0
  have hh : jSt (dC, dI) B base G0 G0 EJ7_copyOfRangeInt_feecc s.heap 0 0 [] [] [] s.heap [] := jSt.start hX hP0 jMc.nil jIs.nil
  clear hX hP0
  have hk0 : (0 : Int32).toInt = 0 := by decide
  have hk1 : (1 : Int32).toInt = 1 := by decide
  have hrg_a1 := jb_rng a1
  have hrg_a2 := jb_rng a2
  have hbs : base ≤ s.heap.size := Nat.le_of_lt (Nat.lt_of_le_of_lt (hh.ab hg_r0).1 (hh.ab hg_r0).2)
  have hRc : R.cells = LC - s.heap.size := by rw [← hR]; rfl
  have hRs : R.slots = LS - jTot s.heap := by rw [← hR]; rfl
  have hkp : jKe G0 G0 s.heap s.heap := jKe.rf
  refine lv_iload_n hx hb dJ7_copyOfRangeInt_feecc_0 rfl (lv_at hl 1 rfl) ?_
  refine lv_iload_n hx hb dJ7_copyOfRangeInt_feecc_1 rfl (lv_at hl 2 rfl) ?_
  have hsz_1 := hh.2.2.2.2.2.1
  have htt_1 := hh.2.2.2.2.2.2.1
  refine W.room (fun hrc_1 hrs_1 => ?_)
  refine va_callv (A0 := jA base) (H0 := s.heap) (va_runS (As := [.int a1, .int a2]) (rest := []) ⟨hx, hb, hml, hown, hts⟩ (uJ7_checkLength_df160 l dC dI ca base B hB hAp G0 s.heap a1 a2) (va_cwS 2 hts (jgS (jWr_78 _ (List.mem_of_getElem? (i := 7) rfl)) (jWr_78 _ (List.mem_of_getElem? (i := 8) rfl)) (jWr_16 _ (List.mem_of_getElem? (i := 7) rfl)) (jWr_78 _ (List.mem_of_getElem? (i := 9) rfl))) rfl rfl rfl (by decide +kernel) ⟨by rw [← hR]; exact Nat.le_of_ble_eq_true rfl, by rw [← hR]; exact Nat.le_of_ble_eq_true rfl⟩) ⟨fun a U g mk q => by obtain ⟨q0, q1, q2, qK, q10, q11⟩ := q; exact ⟨q0, q1, q2, jG.calling g mk a qK, q10, q11⟩, fun U hU hW => ⟨rfl, hU, hh.2.1, hG.step hW hU hh.1, jP.nil, by first | omega | rfl | assumption | decide | exact Or.inl rfl | exact Or.inr rfl | (simp only; omega)⟩⟩ rfl rfl hl.1 rfl (lv_room (Nat.le_of_ble_eq_true rfl)) dJ7_copyOfRangeInt_feecc_2 ⟨by rw [hRc]; show _ + 0 ≤ _; omega, by rw [hRs]; show _ + 0 ≤ _; omega⟩) hh.1 (fun q _ h => h) (fun q h => h) (fun u_1 t_1 H_1 locs_1 ht_1 hvm_1 hr_2 hb_1 hz_1 hk_1 hS_1 => ?_)
  rw [ht_1] at hb_1
  obtain ⟨hb_1, hbF_1⟩ := hb_1
  obtain ⟨hb_11, hb_12, hb_13, hb_14, hb_15⟩ := hb_1
  have hh_1 : jSt (dC, dI) B base G0 G0 EJ7_copyOfRangeInt_feecc s.heap 0 0 [] [] [] H_1 locs_1 := ((hh.call hb_11 hb_12 hb_13 hb_14 hS_1 rfl (L1 := []) [] rfl rfl (M1 := []) [] rfl rfl (I1 := []) [] rfl rfl).more hb_15)
  clear hh ht_1 hvm_1 hz_1 hk_1 hS_1 hb_11 hb_12 hb_13 hb_14 hb_15
  have hkp_3 := hkp.fl hbF_1 (by intro q h9; simp at h9)
  refine lv_iload_n hx hb dJ7_copyOfRangeInt_feecc_5 rfl (lv_at hl 2 rfl) ?_
  refine lv_iload_n hx hb dJ7_copyOfRangeInt_feecc_6 rfl (lv_at hl 1 rfl) ?_
  refine lv_isub hx hb dJ7_copyOfRangeInt_feecc_7 ?_
  refine lv_topi (fun z_4 ez_4 => ?_)
  have hz_4 : z_4.toInt = a2.toInt - a1.toInt := by rw [ez_4]; exact jb_isub2 (rfl) (rfl) (by omega)
  refine lv_istore_n (lv' := [(3, .int z_4), (0, .ref r0), (1, .int a1), (2, .int a2)]) hx hb dJ7_copyOfRangeInt_feecc_8 rfl hl (by decide) rfl (fun ls hl => ?_)
  refine lv_iload_n hx hb dJ7_copyOfRangeInt_feecc_9 rfl (lv_at hl 0 rfl) ?_
  have hsz_5 := hh_1.2.2.2.2.2.1
  have htt_5 := hh_1.2.2.2.2.2.2.1
  have hsy_5 : s.heap.size ≤ H_1.size := hh_1.1.1
  refine j7_newiR hx hb hK hh_1 hB (atype := .int) (ty := .int) (htw (.arrayClass .int) (jWr_3 _ (List.mem_of_getElem? (i := 20) rfl))) rfl rfl (fun _ h => h) 1 rfl (by decide) (x := z_4.toInt) rfl (by omega) (by rw [hRc]; omega) (by rw [hRs]; omega) dJ7_copyOfRangeInt_feecc_10 (fun H_5 hfr_5 hnr_5 hraw_5 hh_5 => ?_)
  have hke_5 : jKe G0 G0 H_1 H_5 := jKe.raw hfr_5
  have hbr_5 : base ≤ H_1.size := Nat.le_trans hbs hsy_5
  obtain ⟨nq_5, hnq_5⟩ : ∃ q : Nat, q = (z_4.toInt).toNat := ⟨_, rfl⟩
  rw [← hnq_5] at hraw_5 hh_5 ⊢
  clear hh_1
  have hkp_6 := hkp_3.tr hke_5
  refine lv_astore (lv' := [(4, .ref H_1.size), (3, .int z_4), (0, .ref r0), (1, .int a1), (2, .int a2)]) hx hb dJ7_copyOfRangeInt_feecc_12 hl (by decide) rfl (fun ls hl => ?_)
  refine lv_aload_n hx hb dJ7_copyOfRangeInt_feecc_14 rfl (lv_at hl 2 rfl) ?_
  refine lv_iload_n hx hb dJ7_copyOfRangeInt_feecc_15 rfl (lv_at hl 3 rfl) ?_
  refine lv_aload hx hb dJ7_copyOfRangeInt_feecc_16 (lv_at hl 0 rfl) ?_
  refine lv_iconst (v := 0) hx hb dJ7_copyOfRangeInt_feecc_18 (by decide) ?_
  refine lv_aload_n hx hb dJ7_copyOfRangeInt_feecc_19 rfl (lv_at hl 2 rfl) ?_
  refine j7_len hx hb hK hh_5 hB280 1 rfl (by decide) hg_r0 (by omega) dJ7_copyOfRangeInt_feecc_20 (fun z_7 hz_7 => ?_)
  refine lv_iload_n hx hb dJ7_copyOfRangeInt_feecc_21 rfl (lv_at hl 3 rfl) ?_
  refine lv_isub hx hb dJ7_copyOfRangeInt_feecc_22 ?_
  refine lv_topi (fun z_8 ez_8 => ?_)
  have hz_8 : z_8.toInt = z_7.toInt - a1.toInt := by rw [ez_8]; exact jb_isub2 (rfl) (rfl) (by omega)
  refine lv_iload_n hx hb dJ7_copyOfRangeInt_feecc_23 rfl (lv_at hl 1 rfl) ?_
  have hsz_9 := hh_5.2.2.2.2.2.1
  have htt_9 := hh_5.2.2.2.2.2.2.1
  refine W.room (fun hrc_9 hrs_9 => ?_)
  refine va_mmin hx hb (by rw [hml]; exact hl.1.symm) hown (htw (.methodLink RJ7 304 Lib.Math.min.name) (jWr_16 _ (List.mem_of_getElem? (i := 15) rfl))) (htw (.static Lib.Math.min.name) (jWr_16 _ (List.mem_of_getElem? (i := 16) rfl))) (htw (.initialized "java/lang/Math") (jWr_3 _ (List.mem_of_getElem? (i := 7) rfl))) (htw (.code Lib.Math.min.name Lib.Math.min.code 2 (some .int)) (jWr_16 _ (List.mem_of_getElem? (i := 17) rfl))) (by rw [← hR]; exact Nat.le_of_ble_eq_true rfl) (by rw [← hR]; exact Nat.le_of_ble_eq_true rfl) (by rw [hRc]; omega) (by rw [hRs]; omega) dJ7_copyOfRangeInt_feecc_24 ?_
  refine lv_topi (fun z_10 ez_10 => ?_)
  have hz_10 := jb_min ez_10
  refine j7_acopyR hx hb (by rw [hml]; exact hl.1.symm) hown (htw (.methodLink RJ7 150 arraycopyName) (jWr_16 _ (List.mem_of_getElem? (i := 18) rfl))) (htw (.native arraycopyName) (jWr_16 _ (List.mem_of_getElem? (i := 19) rfl))) (htw (.static arraycopyName) (jWr_16 _ (List.mem_of_getElem? (i := 20) rfl))) (htw (.initialized "java/lang/System") (jWr_16 _ (List.mem_of_getElem? (i := 21) rfl))) hK hh_5 hB hB280 1 rfl (by decide) hg_r0 hraw_5 hnr_5 hbr_5 (x := a1.toInt) (y := 0) (z := z_10.toInt) rfl (by decide) rfl (by omega) (by rw [← hR]; exact Nat.le_of_ble_eq_true rfl) (by rw [← hR]; exact Nat.le_of_ble_eq_true rfl) dJ7_copyOfRangeInt_feecc_27 (fun H_11 locs_11 g_11 hraw_11 hc_11 hr_11 hh_11 => ?_)
  have hkp_12 := hkp_6.st hsy_5 hr_11
  clear hr_11
  clear hh_5
  refine lv_aload hx hb dJ7_copyOfRangeInt_feecc_30 (lv_at hl 0 rfl) ?_
  have hsz_13 := hh_11.2.2.2.2.2.1
  have htt_13 := hh_11.2.2.2.2.2.2.1
  refine W.room (fun hrc_13 hrs_13 => ?_)
  refine W.widen (k := LC - s.heap.size) (n := LS - jTot s.heap) (by omega) (by omega) ?_
  rw [hQ]
  have hle_14 : jLe G0 (va_up G0 H_1.size (some (280, nq_5))) := jLe.typ hnr_5
  have hh_14 := hh_11.typ (k := 280) (n := nq_5) hB hnr_5 hbr_5 hraw_11.lt (jAr.of hB280 hraw_11 (fun j _ => (jFp.cpy jFp.zero hc_11) j))
  have hgn_14 : (va_up G0 H_1.size (some (280, nq_5))) H_1.size = some (280, nq_5) := jUp_self
  have hN_14 : (jNk [0, 1, 2, 3, 4, 5, 6, 7, 8, 9, 10, 11, 12, 13, 14, 15, 16, 17, 175]) G0 (va_up G0 H_1.size (some (280, nq_5))) := jNk.new (by decide)
  have hNn_14 : (jNk [0, 1, 2, 3, 4, 5, 6, 7, 8, 9, 10, 11, 12, 13, 14, 15, 16, 17, 175]) G0 (va_up G0 H_1.size (some (280, nq_5))) := (jNk.rf).tr hN_14
  have hkp_15 := hkp_12.typn (t := some (280, nq_5)) hsy_5
  exact W.aret (v := .ref H_1.size) hx hb hr (Or.inr ⟨_, rfl⟩) (Or.inr ⟨_, rfl⟩) (fun t ht hW => ⟨⟨.ref H_1.size, (nq_5, (va_up G0 H_1.size (some (280, nq_5)))), rfl, ⟨⟨_, rfl, hgn_14⟩, ⟨_, rfl, hsy_5⟩, by (try dsimp only); first | omega | rfl | assumption | fail⟩, ⟨hh_14.ra (by first | omega | (simp only; omega)) (by first | omega | (simp only; omega)) (M1 := []) [] rfl ht, hNn_14, by rw [ht]; exact hkp_15⟩⟩, by rw [ht]; try exact hh_14.1.1, fun q h9 hq => by rw [ht]; try exact hh_14.1.2.1 q h9 hq⟩) hh_14.1.2.2 dJ7_copyOfRangeInt_feecc_32
set_option maxHeartbeats 4000000 in
set_option maxRecDepth 20000 in
theorem uJ7_copyOfRange_feecc (l : Launch) (dC : Nat → ClassId) (dI : Nat → Nat → Nat) (ca : Nat → ClassId) (base : Nat) (B : jF) (hB : jBok B) (hAp : jAp (dC, dI)) (hB280 : ∀ n G a H, B 280 n G a H ↔ jAr (dC, dI) (ca 1) (fun j z => -1 ≤ z.toInt) n a H) (G0 : jT) (H0 : Heap) (r0 : Nat) (a1 : Int32) (a2 : Int32) (n0 : Nat) (LC LS : Nat) : Met l yJ7_copyOfRange_feecc (jw yJ7_copyOfRange_feecc cJ7_copyOfRange_feecc 3 (some (.array .int))) ({ frames := 2, cells := LC - H0.size, slots := LS - jTot H0, locals := 85 }) (va_Pc [.ref r0, .int a1, .int a2] (fun U => U.heap = H0 ∧ jX B base G0 [] H0 ∧ jG dC dI ca base U ∧ G0 r0 = some (280, n0) ∧ jP (dC, dI) G0 H0 [] ∧ H0.size + 1 ≤ LC ∧ jTot H0 + (a2.toInt - a1.toInt).toNat ≤ LS ∧ 1 ≤ a1.toInt ∧ a1.toInt ≤ a2.toInt ∧ a2.toInt ≤ n0 ∧ n0 ≤ 3000)) (jQx (S := Nat × jT) (fun v u => jRf u.2 280 u.1 v ∧ jNwv v H0 ∧ u.1 = a2.toInt - a1.toInt) (fun u t => jRa (dC, dI) B base G0 u.2 EJ7_copyOfRange_feecc H0 (1) (u.1) [] t.heap ∧ (jNk [0, 1, 2, 3, 4, 5, 6, 7, 8, 9, 10, 11, 12, 13, 14, 15, 16, 17, 175]) G0 u.2 ∧ jKe G0 u.2 H0 t.heap) (jA base)) (LC - H0.size) (LS - jTot H0) (jA base) := by
  refine Met.ofW (cc := cJ7_copyOfRange_feecc) (maxL := 3) (ret := (some (.array .int))) (by decide) rfl ?_
  intro p e s m args below meth c s₁ Bd hml hv
  obtain ⟨rfl, hH0, hX, hG, hg_r0, hP0, hLC0, hLS0, hp0, hp1, hp2, hp3⟩ := hv
  have hK := hG.1
  have hx := Bd.exec
  have hb := Bd.bytes
  have hr := Bd.returns
  have hts := atoms_spec (ws := (jw yJ7_copyOfRange_feecc cJ7_copyOfRange_feecc 3 (some (.array .int)))) Bd.pre
  have htw : ∀ w ∈ jWl, w.before _ s = true := fun w h => hts w (List.mem_cons_of_mem _ h)
  have hown : s.vm.findClass RJ7 = some m.cls := findClass_of_methodNamed Bd.named
  have hlocks := Bd.notSynchronized
  obtain ⟨Q, hQ⟩ : ∃ Q, Q = MQ below (jQx (S := Nat × jT) (fun v u => jRf u.2 280 u.1 v ∧ jNwv v H0 ∧ u.1 = a2.toInt - a1.toInt) (fun u t => jRa (dC, dI) B base G0 u.2 EJ7_copyOfRange_feecc H0 (1) (u.1) [] t.heap ∧ (jNk [0, 1, 2, 3, 4, 5, 6, 7, 8, 9, 10, 11, 12, 13, 14, 15, 16, 17, 175]) G0 u.2 ∧ jKe G0 u.2 H0 t.heap) (jA base)) ([.ref r0, .int a1, .int a2] : List Value).toArray s (LC - H0.size) (LS - jTot H0) (jA base) := ⟨_, rfl⟩
  rw [← hQ]
  have hl := lv_entry ([.ref r0, .int a1, .int a2]) (n := 3) (Nat.le_of_ble_eq_true rfl)
  rw [lg_entry_eq]
  generalize (lg_sl ([.ref r0, .int a1, .int a2]) ++ List.replicate (3 - (lg_sl ([.ref r0, .int a1, .int a2])).length) Slot.unset).toArray = ls at hl ⊢
  have hl : lv_has ls 3 [(0, .ref r0), (1, .int a1), (2, .int a2)] := hl
  generalize hR : (headSpec (jw yJ7_copyOfRange_feecc cJ7_copyOfRange_feecc 3 (some (.array .int))) ({ frames := 2, cells := LC - H0.size, slots := LS - jTot H0, locals := 85 })).room = R
  subst hH0
  have hh : jSt (dC, dI) B base G0 G0 EJ7_copyOfRange_feecc s.heap 0 0 [] [] [] s.heap [] := jSt.start hX hP0 jMc.nil jIs.nil
  clear hX hP0
  have hk0 : (0 : Int32).toInt = 0 := by decide
  have hk1 : (1 : Int32).toInt = 1 := by decide
  have hrg_a1 := jb_rng a1
  have hrg_a2 := jb_rng a2
  have hbs : base ≤ s.heap.size := Nat.le_of_lt (Nat.lt_of_le_of_lt (hh.ab hg_r0).1 (hh.ab hg_r0).2)
  have hRc : R.cells = LC - s.heap.size := by rw [← hR]; rfl
  have hRs : R.slots = LS - jTot s.heap := by rw [← hR]; rfl
  have hkp : jKe G0 G0 s.heap s.heap := jKe.rf
  refine lv_iload_n hx hb dJ7_copyOfRange_feecc_0 rfl (lv_at hl 1 rfl) ?_
  refine lv_if_ne (tgt := 10) hx hb dJ7_copyOfRange_feecc_1 (by decide) (fun c_1 => ?_) (fun c_1 => ?_)
  · skip
    have c_1' : a1.toInt ≠ 0 := jb_ne (rfl) ((by decide)) c_1
    refine lv_aload_n hx hb dJ7_copyOfRange_feecc_10 rfl (lv_at hl 0 rfl) ?_
    refine lv_iload_n hx hb dJ7_copyOfRange_feecc_11 rfl (lv_at hl 1 rfl) ?_
    refine lv_iload_n hx hb dJ7_copyOfRange_feecc_12 rfl (lv_at hl 2 rfl) ?_
    have hsz_2 := hh.2.2.2.2.2.1
    have htt_2 := hh.2.2.2.2.2.2.1
    refine W.room (fun hrc_2 hrs_2 => ?_)
    refine j_callx (A0 := jA base) (H0 := s.heap) (va_runS (As := [.ref r0, .int a1, .int a2]) (rest := []) ⟨hx, hb, hml, hown, hts⟩ (uJ7_copyOfRangeInt_feecc l dC dI ca base B hB hAp hB280 G0 s.heap r0 a1 a2 n0 LC LS) (va_cwS 3 hts (jgS (jWr_78 _ (List.mem_of_getElem? (i := 4) rfl)) (jWr_78 _ (List.mem_of_getElem? (i := 5) rfl)) (jWr_16 _ (List.mem_of_getElem? (i := 7) rfl)) (jWr_78 _ (List.mem_of_getElem? (i := 6) rfl))) rfl rfl rfl (by decide +kernel) ⟨by rw [← hR]; exact Nat.le_of_ble_eq_true rfl, by rw [← hR]; exact Nat.le_of_ble_eq_true rfl⟩) ⟨fun a U g mk q => by obtain ⟨q0, q1, q2, qK, q10, q11, q12⟩ := q; exact ⟨q0, q1, q2, jG.calling g mk a qK, q10, q11, q12⟩, fun U hU hW => ⟨rfl, hU, hh.2.1, hG.step hW hU hh.1, hg_r0, jP.nil, by first | omega | (refine ⟨?_, ?_, ?_, ?_⟩ <;> (first | omega | rfl | assumption | decide | exact Or.inl rfl | exact Or.inr rfl | (simp only; omega)))⟩⟩ rfl rfl hl.1 rfl (lv_room (Nat.le_of_ble_eq_true rfl)) dJ7_copyOfRange_feecc_13 ⟨by rw [hRc]; omega, by rw [hRs]; omega⟩) hh.1 (fun q _ h => h) (fun q h => h) (fun r_3 u_2 t_2 H_2 locs_2 ht_2 hvm_2 hr_3 hb_2 hz_2 hk_2 hS_2 => ?_)
    rw [ht_2] at hb_2
    obtain ⟨m_ret_2, G_2⟩ := u_2
    simp only at hb_2
    obtain ⟨⟨hb_21, hb_22, hb_23, hb_24, hb_25, hb_26⟩, hN_2, hbK_2⟩ := hb_2
    have hh_2 : jSt (dC, dI) B base G0 G_2 EJ7_copyOfRange_feecc s.heap (0 + (1)) (0 + (m_ret_2)) [] [] [] H_2 locs_2 := (hh.callG hb_21 hb_22 hb_23 hb_24 hb_25 hS_2 rfl (L1 := []) [] rfl rfl (M1 := []) [] rfl rfl (I1 := []) [] rfl rfl).more hb_26
    have hNn_2 : (jNk [0, 1, 2, 3, 4, 5, 6, 7, 8, 9, 10, 11, 12, 13, 14, 15, 16, 17, 175]) G0 G_2 := (jNk.rf).tr hN_2
    have hg_4 := hb_22 _ _ hg_r0
    obtain ⟨hr_3, hr_3n, hr_3p⟩ := hr_3
    try simp only at hr_3p
    have hkp_5 := hkp.tr hbK_2
    obtain ⟨ret_6, rfl, hg_ret_6⟩ := hr_3
    have hsy_2 : s.heap.size ≤ ret_6 := Nat.le_trans hh.1.1 hr_3n.le
    have hsz_7 := hh_2.2.2.2.2.2.1
    have htt_7 := hh_2.2.2.2.2.2.2.1
    refine W.room (fun hrc_7 hrs_7 => ?_)
    refine W.widen (k := LC - s.heap.size) (n := LS - jTot s.heap) (by omega) (by omega) ?_
    rw [hQ]
    exact W.aret (v := .ref ret_6) hx hb hr (Or.inr ⟨_, rfl⟩) (Or.inr ⟨_, rfl⟩) (fun t ht hW => ⟨⟨.ref ret_6, (m_ret_2, G_2), rfl, ⟨⟨_, rfl, hg_ret_6⟩, ⟨_, rfl, hsy_2⟩, by (try dsimp only); first | omega | rfl | assumption | fail⟩, ⟨hh_2.ra (by first | omega | (simp only; omega)) (by first | omega | (simp only; omega)) (M1 := []) [] rfl ht, hNn_2, by rw [ht]; exact hkp_5⟩⟩, by rw [ht]; try exact hh_2.1.1, fun q h9 hq => by rw [ht]; try exact hh_2.1.2.1 q h9 hq⟩) hh_2.1.2.2 dJ7_copyOfRange_feecc_16
  · skip
    have c_1' : a1.toInt = 0 := jb_ne_n (rfl) ((by decide)) c_1
    exact absurd c_1' (by omega)
set_option maxHeartbeats 4000000 in
set_option maxRecDepth 20000 in
theorem uX5_part (l : Launch) (dC : Nat → ClassId) (dI : Nat → Nat → Nat) (ca : Nat → ClassId) (base : Nat) (B : jF) (hB : jBok B) (hAp : jAp (dC, dI)) (hB280 : ∀ n G a H, B 280 n G a H ↔ jAr (dC, dI) (ca 1) (fun j z => -1 ≤ z.toInt) n a H) (G0 : jT) (H0 : Heap) (r0 : Nat) (a1 : Int32) (a2 : Int32) (n0 : Nat) (LC LS : Nat) : Met l yX5_part (jw yX5_part cX5_part 3 (some (.array .int))) ({ frames := 3, cells := LC - H0.size, slots := LS - jTot H0, locals := 107 }) (va_Pc [.ref r0, .int a1, .int a2] (fun U => U.heap = H0 ∧ jX B base G0 [] H0 ∧ jG dC dI ca base U ∧ G0 r0 = some (280, n0) ∧ jP (dC, dI) G0 H0 [] ∧ H0.size + 1 ≤ LC ∧ jTot H0 + n0 ≤ LS ∧ 1 ≤ a1.toInt ∧ n0 ≤ 80)) (jQx (S := Nat × jT) (fun v u => jRf u.2 280 u.1 v ∧ jNwv v H0 ∧ u.1 ≤ n0) (fun u t => jRa (dC, dI) B base G0 u.2 EX5_part H0 (1) (u.1) [] t.heap ∧ (jNk [0, 1, 2, 3, 4, 5, 6, 7, 8, 9, 10, 11, 12, 13, 14, 15, 16, 17, 175]) G0 u.2 ∧ jKe G0 u.2 H0 t.heap) (jA base)) (LC - H0.size) (LS - jTot H0) (jA base) := by
  refine Met.ofW (cc := cX5_part) (maxL := 3) (ret := (some (.array .int))) (by decide) rfl ?_
  intro p e s m args below meth c s₁ Bd hml hv
  obtain ⟨rfl, hH0, hX, hG, hg_r0, hP0, hLC0, hLS0, hp0, hp1⟩ := hv
  have hK := hG.1
  have hx := Bd.exec
  have hb := Bd.bytes
  have hr := Bd.returns
  have hts := atoms_spec (ws := (jw yX5_part cX5_part 3 (some (.array .int)))) Bd.pre
  have htw : ∀ w ∈ jWl, w.before _ s = true := fun w h => hts w (List.mem_cons_of_mem _ h)
  have hown : s.vm.findClass RX5 = some m.cls := findClass_of_methodNamed Bd.named
  have hlocks := Bd.notSynchronized
  obtain ⟨Q, hQ⟩ : ∃ Q, Q = MQ below (jQx (S := Nat × jT) (fun v u => jRf u.2 280 u.1 v ∧ jNwv v H0 ∧ u.1 ≤ n0) (fun u t => jRa (dC, dI) B base G0 u.2 EX5_part H0 (1) (u.1) [] t.heap ∧ (jNk [0, 1, 2, 3, 4, 5, 6, 7, 8, 9, 10, 11, 12, 13, 14, 15, 16, 17, 175]) G0 u.2 ∧ jKe G0 u.2 H0 t.heap) (jA base)) ([.ref r0, .int a1, .int a2] : List Value).toArray s (LC - H0.size) (LS - jTot H0) (jA base) := ⟨_, rfl⟩
  rw [← hQ]
  have hl := lv_entry ([.ref r0, .int a1, .int a2]) (n := 3) (Nat.le_of_ble_eq_true rfl)
  rw [lg_entry_eq]
  generalize (lg_sl ([.ref r0, .int a1, .int a2]) ++ List.replicate (3 - (lg_sl ([.ref r0, .int a1, .int a2])).length) Slot.unset).toArray = ls at hl ⊢
  have hl : lv_has ls 3 [(0, .ref r0), (1, .int a1), (2, .int a2)] := hl
  generalize hR : (headSpec (jw yX5_part cX5_part 3 (some (.array .int))) ({ frames := 3, cells := LC - H0.size, slots := LS - jTot H0, locals := 107 })).room = R
  subst hH0
  have hh : jSt (dC, dI) B base G0 G0 EX5_part s.heap 0 0 [] [] [] s.heap [] := jSt.start hX hP0 jMc.nil jIs.nil
  clear hX hP0
  have hk0 : (0 : Int32).toInt = 0 := by decide
  have hk1 : (1 : Int32).toInt = 1 := by decide
  have hrg_a1 := jb_rng a1
  have hrg_a2 := jb_rng a2
  have hbs : base ≤ s.heap.size := Nat.le_of_lt (Nat.lt_of_le_of_lt (hh.ab hg_r0).1 (hh.ab hg_r0).2)
  have hRc : R.cells = LC - s.heap.size := by rw [← hR]; rfl
  have hRs : R.slots = LS - jTot s.heap := by rw [← hR]; rfl
  have hkp : jKe G0 G0 s.heap s.heap := jKe.rf
  refine lv_iload_n hx hb dX5_part_0 rfl (lv_at hl 1 rfl) ?_
  refine lv_if_lt (tgt := 15) hx hb dX5_part_1 (by decide) (fun c_1 => ?_) (fun c_1 => ?_)
  · skip
    have c_1' : a1.toInt < 0 := jb_lt (rfl) ((by decide)) c_1
    refine lv_iconst (v := 0) hx hb dX5_part_15 (by decide) ?_
    have hsz_2 := hh.2.2.2.2.2.1
    have htt_2 := hh.2.2.2.2.2.2.1
    refine j7_newiK hx hb hK hh hB (atype := .int) (ty := .int) (htw (.arrayClass .int) (jWr_3 _ (List.mem_of_getElem? (i := 20) rfl))) rfl rfl (fun _ h => h) hB280 1 rfl (by decide) (by decide) hbs (x := 0) (by decide) (by omega) (fun j => by first | trivial | decide | rfl | exact Or.inl rfl | (refine ⟨?_, ?_⟩ <;> decide)) (by rw [hRc]; omega) (by rw [hRs]; omega) dX5_part_16 (fun H_2 hfr_2 hh_2 => ?_)
    have hh_2 : jSt (dC, dI) B base G0 (va_up G0 s.heap.size (some (280, 0))) EX5_part s.heap (0 + 1) (0 + 0) [] [] [] H_2 [] := hh_2
    have hN_2 : (jNk [0, 1, 2, 3, 4, 5, 6, 7, 8, 9, 10, 11, 12, 13, 14, 15, 16, 17, 175]) G0 (va_up G0 s.heap.size (some (280, 0))) := jNk.new (by decide)
    have hgn_2 : (va_up G0 s.heap.size (some (280, 0))) s.heap.size = some (280, 0) := jUp_self
    have hle_2 : jLe G0 (va_up G0 s.heap.size (some (280, 0))) := jLe.new hh.2.1.fresh
    have hke_2 : jKe G0 (va_up G0 s.heap.size (some (280, 0))) s.heap H_2 := jKe.new hfr_2
    have hsy_2 : s.heap.size ≤ s.heap.size := hh.1.1
    generalize (va_up G0 s.heap.size (some (280, 0))) = G_2 at hN_2 hgn_2 hle_2 hke_2 hh_2
    clear hh
    have hNn_2 : (jNk [0, 1, 2, 3, 4, 5, 6, 7, 8, 9, 10, 11, 12, 13, 14, 15, 16, 17, 175]) G0 G_2 := (jNk.rf).tr hN_2
    have hg_3 := hle_2 _ _ hg_r0
    have hkp_4 := hkp.tr hke_2
    refine lv_goto (tgt := 27) hx hb dX5_part_18 (by decide) ?_
    have hsz_5 := hh_2.2.2.2.2.2.1
    have htt_5 := hh_2.2.2.2.2.2.2.1
    refine W.room (fun hrc_5 hrs_5 => ?_)
    refine W.widen (k := LC - s.heap.size) (n := LS - jTot s.heap) (by omega) (by omega) ?_
    rw [hQ]
    exact W.aret (v := .ref s.heap.size) hx hb hr (Or.inr ⟨_, rfl⟩) (Or.inr ⟨_, rfl⟩) (fun t ht hW => ⟨⟨.ref s.heap.size, (0, G_2), rfl, ⟨⟨_, rfl, hgn_2⟩, ⟨_, rfl, hsy_2⟩, by (try dsimp only); first | omega | rfl | assumption | fail⟩, ⟨hh_2.ra (by first | omega | (simp only; omega)) (by first | omega | (simp only; omega)) (M1 := []) [] rfl ht, hNn_2, by rw [ht]; exact hkp_4⟩⟩, by rw [ht]; try exact hh_2.1.1, fun q h9 hq => by rw [ht]; try exact hh_2.1.2.1 q h9 hq⟩) hh_2.1.2.2 dX5_part_27
  · skip
    have c_1' : a1.toInt ≥ 0 := jb_lt_n (rfl) ((by decide)) c_1
    refine lv_iload_n hx hb dX5_part_4 rfl (lv_at hl 2 rfl) ?_
    refine lv_iload_n hx hb dX5_part_5 rfl (lv_at hl 1 rfl) ?_
    refine lv_icmp_lt (tgt := 15) hx hb dX5_part_6 (by decide) (fun c_6 => ?_) (fun c_6 => ?_)
    · skip
      have c_6' : a2.toInt < a1.toInt := jb_lt (rfl) (rfl) c_6
      refine lv_iconst (v := 0) hx hb dX5_part_15 (by decide) ?_
      have hsz_7 := hh.2.2.2.2.2.1
      have htt_7 := hh.2.2.2.2.2.2.1
      refine j7_newiK hx hb hK hh hB (atype := .int) (ty := .int) (htw (.arrayClass .int) (jWr_3 _ (List.mem_of_getElem? (i := 20) rfl))) rfl rfl (fun _ h => h) hB280 1 rfl (by decide) (by decide) hbs (x := 0) (by decide) (by omega) (fun j => by first | trivial | decide | rfl | exact Or.inl rfl | (refine ⟨?_, ?_⟩ <;> decide)) (by rw [hRc]; omega) (by rw [hRs]; omega) dX5_part_16 (fun H_7 hfr_7 hh_7 => ?_)
      have hh_7 : jSt (dC, dI) B base G0 (va_up G0 s.heap.size (some (280, 0))) EX5_part s.heap (0 + 1) (0 + 0) [] [] [] H_7 [] := hh_7
      have hN_7 : (jNk [0, 1, 2, 3, 4, 5, 6, 7, 8, 9, 10, 11, 12, 13, 14, 15, 16, 17, 175]) G0 (va_up G0 s.heap.size (some (280, 0))) := jNk.new (by decide)
      have hgn_7 : (va_up G0 s.heap.size (some (280, 0))) s.heap.size = some (280, 0) := jUp_self
      have hle_7 : jLe G0 (va_up G0 s.heap.size (some (280, 0))) := jLe.new hh.2.1.fresh
      have hke_7 : jKe G0 (va_up G0 s.heap.size (some (280, 0))) s.heap H_7 := jKe.new hfr_7
      have hsy_7 : s.heap.size ≤ s.heap.size := hh.1.1
      generalize (va_up G0 s.heap.size (some (280, 0))) = G_7 at hN_7 hgn_7 hle_7 hke_7 hh_7
      clear hh
      have hNn_7 : (jNk [0, 1, 2, 3, 4, 5, 6, 7, 8, 9, 10, 11, 12, 13, 14, 15, 16, 17, 175]) G0 G_7 := (jNk.rf).tr hN_7
      have hg_8 := hle_7 _ _ hg_r0
      have hkp_9 := hkp.tr hke_7
      refine lv_goto (tgt := 27) hx hb dX5_part_18 (by decide) ?_
      have hsz_10 := hh_7.2.2.2.2.2.1
      have htt_10 := hh_7.2.2.2.2.2.2.1
      refine W.room (fun hrc_10 hrs_10 => ?_)
      refine W.widen (k := LC - s.heap.size) (n := LS - jTot s.heap) (by omega) (by omega) ?_
      rw [hQ]
      exact W.aret (v := .ref s.heap.size) hx hb hr (Or.inr ⟨_, rfl⟩) (Or.inr ⟨_, rfl⟩) (fun t ht hW => ⟨⟨.ref s.heap.size, (0, G_7), rfl, ⟨⟨_, rfl, hgn_7⟩, ⟨_, rfl, hsy_7⟩, by (try dsimp only); first | omega | rfl | assumption | fail⟩, ⟨hh_7.ra (by first | omega | (simp only; omega)) (by first | omega | (simp only; omega)) (M1 := []) [] rfl ht, hNn_7, by rw [ht]; exact hkp_9⟩⟩, by rw [ht]; try exact hh_7.1.1, fun q h9 hq => by rw [ht]; try exact hh_7.1.2.1 q h9 hq⟩) hh_7.1.2.2 dX5_part_27
    · skip
      have c_6' : a2.toInt ≥ a1.toInt := jb_lt_n (rfl) (rfl) c_6
      refine lv_iload_n hx hb dX5_part_9 rfl (lv_at hl 2 rfl) ?_
      refine lv_aload_n hx hb dX5_part_10 rfl (lv_at hl 0 rfl) ?_
      refine j7_len hx hb hK hh hB280 1 rfl (by decide) hg_r0 (by omega) dX5_part_11 (fun z_11 hz_11 => ?_)
      refine lv_icmp_le (tgt := 21) hx hb dX5_part_12 (by decide) (fun c_12 => ?_) (fun c_12 => ?_)
      · skip
        have c_12' : a2.toInt ≤ z_11.toInt := jb_le (rfl) (rfl) c_12
        refine lv_aload_n hx hb dX5_part_21 rfl (lv_at hl 0 rfl) ?_
        refine lv_iload_n hx hb dX5_part_22 rfl (lv_at hl 1 rfl) ?_
        refine lv_iload_n hx hb dX5_part_23 rfl (lv_at hl 2 rfl) ?_
        have hsz_13 := hh.2.2.2.2.2.1
        have htt_13 := hh.2.2.2.2.2.2.1
        refine W.room (fun hrc_13 hrs_13 => ?_)
        refine j_callx (A0 := jA base) (H0 := s.heap) (va_runS (As := [.ref r0, .int a1, .int a2]) (rest := []) ⟨hx, hb, hml, hown, hts⟩ (uJ7_copyOfRange_feecc l dC dI ca base B hB hAp hB280 G0 s.heap r0 a1 a2 n0 LC LS) (va_cwS 3 hts (jgS (jWr_84 _ (List.mem_of_getElem? (i := 23) rfl)) (jWr_77 _ (List.mem_of_getElem? (i := 22) rfl)) (jWr_16 _ (List.mem_of_getElem? (i := 7) rfl)) (jWr_77 _ (List.mem_of_getElem? (i := 23) rfl))) rfl rfl rfl (by decide +kernel) ⟨by rw [← hR]; exact Nat.le_of_ble_eq_true rfl, by rw [← hR]; exact Nat.le_of_ble_eq_true rfl⟩) ⟨fun a U g mk q => by obtain ⟨q0, q1, q2, qK, q10, q11, q12⟩ := q; exact ⟨q0, q1, q2, jG.calling g mk a qK, q10, q11, q12⟩, fun U hU hW => ⟨rfl, hU, hh.2.1, hG.step hW hU hh.1, hg_r0, jP.nil, by first | omega | (refine ⟨?_, ?_, ?_, ?_⟩ <;> (first | omega | rfl | assumption | decide | exact Or.inl rfl | exact Or.inr rfl | (simp only; omega)))⟩⟩ rfl rfl hl.1 rfl (lv_room (Nat.le_of_ble_eq_true rfl)) dX5_part_24 ⟨by rw [hRc]; omega, by rw [hRs]; omega⟩) hh.1 (fun q _ h => h) (fun q h => h) (fun r_14 u_13 t_13 H_13 locs_13 ht_13 hvm_13 hr_14 hb_13 hz_13 hk_13 hS_13 => ?_)
        rw [ht_13] at hb_13
        obtain ⟨m_ret_13, G_13⟩ := u_13
        simp only at hb_13
        obtain ⟨⟨hb_131, hb_132, hb_133, hb_134, hb_135, hb_136⟩, hN_13, hbK_13⟩ := hb_13
        have hh_13 : jSt (dC, dI) B base G0 G_13 EX5_part s.heap (0 + (1)) (0 + (m_ret_13)) [] [] [] H_13 locs_13 := (hh.callG hb_131 hb_132 hb_133 hb_134 hb_135 hS_13 rfl (L1 := []) [] rfl rfl (M1 := []) [] rfl rfl (I1 := []) [] rfl rfl).more hb_136
        have hNn_13 : (jNk [0, 1, 2, 3, 4, 5, 6, 7, 8, 9, 10, 11, 12, 13, 14, 15, 16, 17, 175]) G0 G_13 := (jNk.rf).tr hN_13
        have hg_15 := hb_132 _ _ hg_r0
        obtain ⟨hr_14, hr_14n, hr_14p⟩ := hr_14
        try simp only at hr_14p
        have hkp_16 := hkp.tr hbK_13
        obtain ⟨ret_17, rfl, hg_ret_17⟩ := hr_14
        have hsy_13 : s.heap.size ≤ ret_17 := Nat.le_trans hh.1.1 hr_14n.le
        have hsz_18 := hh_13.2.2.2.2.2.1
        have htt_18 := hh_13.2.2.2.2.2.2.1
        refine W.room (fun hrc_18 hrs_18 => ?_)
        refine W.widen (k := LC - s.heap.size) (n := LS - jTot s.heap) (by omega) (by omega) ?_
        rw [hQ]
        exact W.aret (v := .ref ret_17) hx hb hr (Or.inr ⟨_, rfl⟩) (Or.inr ⟨_, rfl⟩) (fun t ht hW => ⟨⟨.ref ret_17, (m_ret_13, G_13), rfl, ⟨⟨_, rfl, hg_ret_17⟩, ⟨_, rfl, hsy_13⟩, by (try dsimp only); first | omega | rfl | assumption | fail⟩, ⟨hh_13.ra (by first | omega | (simp only; omega)) (by first | omega | (simp only; omega)) (M1 := []) [] rfl ht, hNn_13, by rw [ht]; exact hkp_16⟩⟩, by rw [ht]; try exact hh_13.1.1, fun q h9 hq => by rw [ht]; try exact hh_13.1.2.1 q h9 hq⟩) hh_13.1.2.2 dX5_part_27
      · skip
        have c_12' : a2.toInt > z_11.toInt := jb_le_n (rfl) (rfl) c_12
        refine lv_iconst (v := 0) hx hb dX5_part_15 (by decide) ?_
        have hsz_19 := hh.2.2.2.2.2.1
        have htt_19 := hh.2.2.2.2.2.2.1
        refine j7_newiK hx hb hK hh hB (atype := .int) (ty := .int) (htw (.arrayClass .int) (jWr_3 _ (List.mem_of_getElem? (i := 20) rfl))) rfl rfl (fun _ h => h) hB280 1 rfl (by decide) (by decide) hbs (x := 0) (by decide) (by omega) (fun j => by first | trivial | decide | rfl | exact Or.inl rfl | (refine ⟨?_, ?_⟩ <;> decide)) (by rw [hRc]; omega) (by rw [hRs]; omega) dX5_part_16 (fun H_19 hfr_19 hh_19 => ?_)
        have hh_19 : jSt (dC, dI) B base G0 (va_up G0 s.heap.size (some (280, 0))) EX5_part s.heap (0 + 1) (0 + 0) [] [] [] H_19 [] := hh_19
        have hN_19 : (jNk [0, 1, 2, 3, 4, 5, 6, 7, 8, 9, 10, 11, 12, 13, 14, 15, 16, 17, 175]) G0 (va_up G0 s.heap.size (some (280, 0))) := jNk.new (by decide)
        have hgn_19 : (va_up G0 s.heap.size (some (280, 0))) s.heap.size = some (280, 0) := jUp_self
        have hle_19 : jLe G0 (va_up G0 s.heap.size (some (280, 0))) := jLe.new hh.2.1.fresh
        have hke_19 : jKe G0 (va_up G0 s.heap.size (some (280, 0))) s.heap H_19 := jKe.new hfr_19
        have hsy_19 : s.heap.size ≤ s.heap.size := hh.1.1
        generalize (va_up G0 s.heap.size (some (280, 0))) = G_19 at hN_19 hgn_19 hle_19 hke_19 hh_19
        clear hh
        have hNn_19 : (jNk [0, 1, 2, 3, 4, 5, 6, 7, 8, 9, 10, 11, 12, 13, 14, 15, 16, 17, 175]) G0 G_19 := (jNk.rf).tr hN_19
        have hg_20 := hle_19 _ _ hg_r0
        have hkp_21 := hkp.tr hke_19
        refine lv_goto (tgt := 27) hx hb dX5_part_18 (by decide) ?_
        have hsz_22 := hh_19.2.2.2.2.2.1
        have htt_22 := hh_19.2.2.2.2.2.2.1
        refine W.room (fun hrc_22 hrs_22 => ?_)
        refine W.widen (k := LC - s.heap.size) (n := LS - jTot s.heap) (by omega) (by omega) ?_
        rw [hQ]
        exact W.aret (v := .ref s.heap.size) hx hb hr (Or.inr ⟨_, rfl⟩) (Or.inr ⟨_, rfl⟩) (fun t ht hW => ⟨⟨.ref s.heap.size, (0, G_19), rfl, ⟨⟨_, rfl, hgn_19⟩, ⟨_, rfl, hsy_19⟩, by (try dsimp only); first | omega | rfl | assumption | fail⟩, ⟨hh_19.ra (by first | omega | (simp only; omega)) (by first | omega | (simp only; omega)) (M1 := []) [] rfl ht, hNn_19, by rw [ht]; exact hkp_21⟩⟩, by rw [ht]; try exact hh_19.1.1, fun q h9 hq => by rw [ht]; try exact hh_19.1.2.1 q h9 hq⟩) hh_19.1.2.2 dX5_part_27
end
section
theorem dX3_fits_0 : decode cX3_fits 0 = .ok (.aload_n 0, 1) := by decide +kernel
theorem dX3_fits_1 : decode cX3_fits 1 = .ok (.getfield 18, 3) := by decide +kernel
theorem dX3_fits_4 : decode cX3_fits 4 = .ok (.arraylength, 1) := by decide +kernel
theorem dX3_fits_5 : decode cX3_fits 5 = .ok (.iconst 1, 1) := by decide +kernel
theorem dX3_fits_6 : decode cX3_fits 6 = .ok (.isub, 1) := by decide +kernel
theorem dX3_fits_7 : decode cX3_fits 7 = .ok (.istore_n 1, 1) := by decide +kernel
theorem dX3_fits_8 : decode cX3_fits 8 = .ok (.aload_n 0, 1) := by decide +kernel
theorem dX3_fits_9 : decode cX3_fits 9 = .ok (.getfield 22, 3) := by decide +kernel
theorem dX3_fits_12 : decode cX3_fits 12 = .ok (.ifnull 40, 3) := by decide +kernel
theorem dX3_fits_15 : decode cX3_fits 15 = .ok (.aload_n 0, 1) := by decide +kernel
theorem dX3_fits_16 : decode cX3_fits 16 = .ok (.getfield 9, 3) := by decide +kernel
theorem dX3_fits_19 : decode cX3_fits 19 = .ok (.arraylength, 1) := by decide +kernel
theorem dX3_fits_20 : decode cX3_fits 20 = .ok (.bipush 6, 2) := by decide +kernel
theorem dX3_fits_22 : decode cX3_fits 22 = .ok (.if_icmp .gt 30, 3) := by decide +kernel
theorem dX3_fits_25 : decode cX3_fits 25 = .ok (.aload_n 0, 1) := by decide +kernel
theorem dX3_fits_26 : decode cX3_fits 26 = .ok (.getfield 18, 3) := by decide +kernel
theorem dX3_fits_29 : decode cX3_fits 29 = .ok (.arraylength, 1) := by decide +kernel
theorem dX3_fits_30 : decode cX3_fits 30 = .ok (.bipush 8, 2) := by decide +kernel
theorem dX3_fits_32 : decode cX3_fits 32 = .ok (.if_icmp .gt 20, 3) := by decide +kernel
theorem dX3_fits_35 : decode cX3_fits 35 = .ok (.iload_n 1, 1) := by decide +kernel
theorem dX3_fits_36 : decode cX3_fits 36 = .ok (.ifCond .lt 12, 3) := by decide +kernel
theorem dX3_fits_39 : decode cX3_fits 39 = .ok (.aload_n 0, 1) := by decide +kernel
theorem dX3_fits_40 : decode cX3_fits 40 = .ok (.getfield 18, 3) := by decide +kernel
theorem dX3_fits_43 : decode cX3_fits 43 = .ok (.iload_n 1, 1) := by decide +kernel
theorem dX3_fits_44 : decode cX3_fits 44 = .ok (.aaload, 1) := by decide +kernel
theorem dX3_fits_45 : decode cX3_fits 45 = .ok (.ifnull 7, 3) := by decide +kernel
theorem dX3_fits_48 : decode cX3_fits 48 = .ok (.iconst 1, 1) := by decide +kernel
theorem dX3_fits_49 : decode cX3_fits 49 = .ok (.goto 4, 3) := by decide +kernel
theorem dX3_fits_52 : decode cX3_fits 52 = .ok (.iconst 0, 1) := by decide +kernel
theorem dX3_fits_53 : decode cX3_fits 53 = .ok (.ireturn, 1) := by decide +kernel
theorem dX5_add_0 : decode cX5_add 0 = .ok (.aload_n 0, 1) := by decide +kernel
theorem dX5_add_1 : decode cX5_add 1 = .ok (.getfield 150, 3) := by decide +kernel
theorem dX5_add_4 : decode cX5_add 4 = .ok (.bipush 6, 2) := by decide +kernel
theorem dX5_add_6 : decode cX5_add 6 = .ok (.if_icmp .ge 13, 3) := by decide +kernel
theorem dX5_add_9 : decode cX5_add 9 = .ok (.aload_n 0, 1) := by decide +kernel
theorem dX5_add_10 : decode cX5_add 10 = .ok (.getfield 55, 3) := by decide +kernel
theorem dX5_add_13 : decode cX5_add 13 = .ok (.aload_n 0, 1) := by decide +kernel
theorem dX5_add_14 : decode cX5_add 14 = .ok (.getfield 150, 3) := by decide +kernel
theorem dX5_add_17 : decode cX5_add 17 = .ok (.aload_n 1, 1) := by decide +kernel
theorem dX5_add_18 : decode cX5_add 18 = .ok (.aastore, 1) := by decide +kernel
theorem dX5_add_19 : decode cX5_add 19 = .ok (.aload_n 0, 1) := by decide +kernel
theorem dX5_add_20 : decode cX5_add 20 = .ok (.dup, 1) := by decide +kernel
theorem dX5_add_21 : decode cX5_add 21 = .ok (.getfield 150, 3) := by decide +kernel
theorem dX5_add_24 : decode cX5_add 24 = .ok (.iconst 1, 1) := by decide +kernel
theorem dX5_add_25 : decode cX5_add 25 = .ok (.iadd, 1) := by decide +kernel
theorem dX5_add_26 : decode cX5_add 26 = .ok (.putfield 150, 3) := by decide +kernel
theorem dX5_add_29 : decode cX5_add 29 = .ok (.iconst 0, 1) := by decide +kernel
theorem dX5_add_30 : decode cX5_add 30 = .ok (.ireturn, 1) := by decide +kernel
theorem dX5_putFresh_0 : decode cX5_putFresh 0 = .ok (.aload_n 0, 1) := by decide +kernel
theorem dX5_putFresh_1 : decode cX5_putFresh 1 = .ok (.getfield 150, 3) := by decide +kernel
theorem dX5_putFresh_4 : decode cX5_putFresh 4 = .ok (.aload_n 1, 1) := by decide +kernel
theorem dX5_putFresh_5 : decode cX5_putFresh 5 = .ok (.getfield 140, 3) := by decide +kernel
theorem dX5_putFresh_8 : decode cX5_putFresh 8 = .ok (.arraylength, 1) := by decide +kernel
theorem dX5_putFresh_9 : decode cX5_putFresh 9 = .ok (.iadd, 1) := by decide +kernel
theorem dX5_putFresh_10 : decode cX5_putFresh 10 = .ok (.iconst 1, 1) := by decide +kernel
theorem dX5_putFresh_11 : decode cX5_putFresh 11 = .ok (.isub, 1) := by decide +kernel
theorem dX5_putFresh_12 : decode cX5_putFresh 12 = .ok (.istore_n 2, 1) := by decide +kernel
theorem dX5_putFresh_13 : decode cX5_putFresh 13 = .ok (.iload_n 2, 1) := by decide +kernel
theorem dX5_putFresh_14 : decode cX5_putFresh 14 = .ok (.ifCond .lt 9, 3) := by decide +kernel
theorem dX5_putFresh_17 : decode cX5_putFresh 17 = .ok (.iload_n 2, 1) := by decide +kernel
theorem dX5_putFresh_18 : decode cX5_putFresh 18 = .ok (.bipush 6, 2) := by decide +kernel
theorem dX5_putFresh_20 : decode cX5_putFresh 20 = .ok (.if_icmp .le 6, 3) := by decide +kernel
theorem dX5_putFresh_23 : decode cX5_putFresh 23 = .ok (.bipush 9, 2) := by decide +kernel
theorem dX5_putFresh_25 : decode cX5_putFresh 25 = .ok (.ireturn, 1) := by decide +kernel
theorem dX5_putFresh_26 : decode cX5_putFresh 26 = .ok (.iload_n 2, 1) := by decide +kernel
theorem dX5_putFresh_27 : decode cX5_putFresh 27 = .ok (.anewarray 53, 3) := by decide +kernel
theorem dX5_putFresh_30 : decode cX5_putFresh 30 = .ok (.astore_n 3, 1) := by decide +kernel
theorem dX5_putFresh_31 : decode cX5_putFresh 31 = .ok (.iconst 0, 1) := by decide +kernel
theorem dX5_putFresh_32 : decode cX5_putFresh 32 = .ok (.istore 4, 2) := by decide +kernel
theorem dX5_putFresh_34 : decode cX5_putFresh 34 = .ok (.iload 4, 2) := by decide +kernel
theorem dX5_putFresh_36 : decode cX5_putFresh 36 = .ok (.iload_n 2, 1) := by decide +kernel
theorem dX5_putFresh_37 : decode cX5_putFresh 37 = .ok (.if_icmp .ge 59, 3) := by decide +kernel
theorem dX5_putFresh_40 : decode cX5_putFresh 40 = .ok (.aload_n 3, 1) := by decide +kernel
theorem dX5_putFresh_41 : decode cX5_putFresh 41 = .ok (.iload 4, 2) := by decide +kernel
theorem dX5_putFresh_43 : decode cX5_putFresh 43 = .ok (.iload 4, 2) := by decide +kernel
theorem dX5_putFresh_45 : decode cX5_putFresh 45 = .ok (.aload_n 0, 1) := by decide +kernel
theorem dX5_putFresh_46 : decode cX5_putFresh 46 = .ok (.getfield 150, 3) := by decide +kernel
theorem dX5_putFresh_49 : decode cX5_putFresh 49 = .ok (.if_icmp .ge 13, 3) := by decide +kernel
theorem dX5_putFresh_52 : decode cX5_putFresh 52 = .ok (.aload_n 0, 1) := by decide +kernel
theorem dX5_putFresh_53 : decode cX5_putFresh 53 = .ok (.getfield 55, 3) := by decide +kernel
theorem dX5_putFresh_56 : decode cX5_putFresh 56 = .ok (.iload 4, 2) := by decide +kernel
theorem dX5_putFresh_58 : decode cX5_putFresh 58 = .ok (.aaload, 1) := by decide +kernel
theorem dX5_putFresh_59 : decode cX5_putFresh 59 = .ok (.goto 17, 3) := by decide +kernel
theorem dX5_putFresh_62 : decode cX5_putFresh 62 = .ok (.aload_n 1, 1) := by decide +kernel
theorem dX5_putFresh_63 : decode cX5_putFresh 63 = .ok (.getfield 140, 3) := by decide +kernel
theorem dX5_putFresh_66 : decode cX5_putFresh 66 = .ok (.iload 4, 2) := by decide +kernel
theorem dX5_putFresh_68 : decode cX5_putFresh 68 = .ok (.aload_n 0, 1) := by decide +kernel
theorem dX5_putFresh_69 : decode cX5_putFresh 69 = .ok (.getfield 150, 3) := by decide +kernel
theorem dX5_putFresh_72 : decode cX5_putFresh 72 = .ok (.isub, 1) := by decide +kernel
theorem dX5_putFresh_73 : decode cX5_putFresh 73 = .ok (.iconst 1, 1) := by decide +kernel
theorem dX5_putFresh_74 : decode cX5_putFresh 74 = .ok (.iadd, 1) := by decide +kernel
theorem dX5_putFresh_75 : decode cX5_putFresh 75 = .ok (.aaload, 1) := by decide +kernel
theorem dX5_putFresh_76 : decode cX5_putFresh 76 = .ok (.aastore, 1) := by decide +kernel
theorem dX5_putFresh_77 : decode cX5_putFresh 77 = .ok (.aload_n 3, 1) := by decide +kernel
theorem dX5_putFresh_78 : decode cX5_putFresh 78 = .ok (.iload 4, 2) := by decide +kernel
theorem dX5_putFresh_80 : decode cX5_putFresh 80 = .ok (.aaload, 1) := by decide +kernel
theorem dX5_putFresh_81 : decode cX5_putFresh 81 = .ok (.invokevirtual 285, 3) := by decide +kernel
theorem dX5_putFresh_84 : decode cX5_putFresh 84 = .ok (.ifCond .ne 6, 3) := by decide +kernel
theorem dX5_putFresh_87 : decode cX5_putFresh 87 = .ok (.bipush 9, 2) := by decide +kernel
theorem dX5_putFresh_89 : decode cX5_putFresh 89 = .ok (.ireturn, 1) := by decide +kernel
theorem dX5_putFresh_90 : decode cX5_putFresh 90 = .ok (.iinc 4 1, 3) := by decide +kernel
theorem dX5_putFresh_93 : decode cX5_putFresh 93 = .ok (.goto (-59), 3) := by decide +kernel
theorem dX5_putFresh_96 : decode cX5_putFresh 96 = .ok (.aload_n 1, 1) := by decide +kernel
theorem dX5_putFresh_97 : decode cX5_putFresh 97 = .ok (.aload_n 3, 1) := by decide +kernel
theorem dX5_putFresh_98 : decode cX5_putFresh 98 = .ok (.putfield 140, 3) := by decide +kernel
theorem dX5_putFresh_101 : decode cX5_putFresh 101 = .ok (.iconst 0, 1) := by decide +kernel
theorem dX5_putFresh_102 : decode cX5_putFresh 102 = .ok (.ireturn, 1) := by decide +kernel
def EX3_initP : List (Nat × Nat) := []
def EX9_longer_Z : List (Nat × Nat) := []
def EX3_withHypothesisZ : List (Nat × Nat) := [(101, 0)]
def EX3_fitsA : List (Nat × Nat) := []
def EX3_fitsL : List (Nat × Nat) := []
def EX3_fits : List (Nat × Nat) := []
def EX5_add : List (Nat × Nat) := [(7, 10), (211, 0)]
def EX5_putFresh : List (Nat × Nat) := [(11, 8)]
set_option maxHeartbeats 4000000 in
set_option maxRecDepth 20000 in
theorem uX3_initP (l : Launch) (dC : Nat → ClassId) (dI : Nat → Nat → Nat) (ca : Nat → ClassId) (base : Nat) (B : jF) (hB : jBok B) (hAp : jAp (dC, dI)) (hB5 : ∀ n G a H, B 5 n G a H ↔ jOb (dC, dI) 5 4 (F5 n G) a H) (hB101 : ∀ n G a H, B 101 n G a H ↔ jAr (dC, dI) (ca 1) (fun j z => True) n a H) (hB280 : ∀ n G a H, B 280 n G a H ↔ jAr (dC, dI) (ca 1) (fun j z => -1 ≤ z.toInt) n a H) (hB313 : ∀ n G a H, B 313 n G a H ↔ jAq (dC, dI) (ca 8) (jQk 280 80) n G a H) (hB315 : ∀ n G a H, B 315 n G a H ↔ jAqZ (dC, dI) (ca 8) n a H) (G0 : jT) (H0 : Heap) (r0 : Nat) (r1 : Nat) (r2 : Nat) (r3 : Nat) (r4 : Nat) (n1 : Nat) (n2 : Nat) (n3 : Nat) (n4 : Nat) (kn : Nat) (LC LS : Nat) : Met l yX3_init (jw yX3_init cX3_init 5 none) ({ frames := 1, cells := LC - H0.size, slots := LS - jTot H0, locals := 31 }) (va_Pc [.ref r0, .ref r1, .ref r2, .ref r3, .ref r4] (fun U => U.heap = H0 ∧ jX B base G0 [] H0 ∧ jG dC dI ca base U ∧ G0 r1 = some (101, n1) ∧ G0 r2 = some (101, n2) ∧ G0 r3 = some (315, n3) ∧ G0 r4 = some (280, n4) ∧ va_at (dC, dI) vwCl (r0, .inr (5, [.null, .null, .null, .null])) H0 ∧ (∀ t, G0 r0 ≠ some t) ∧ base ≤ r0 ∧ jP (dC, dI) G0 H0 [] ∧ H0.size + 0 ≤ LC ∧ jTot H0 + 0 ≤ LS ∧ n3 = n2 ∧ n1 ≤ 7 ∧ n2 ≤ 9 ∧ kn / 10 = n2 ∧ n4 ≤ 80 ∧ kn % 10 = 4)) (va_Qv (S := jT) (fun u => True) (fun u t => jRa (dC, dI) B base G0 u EX3_initP H0 (0) (0) [] t.heap ∧ (jNk [0, 1, 2, 3, 4, 6, 7, 8, 9, 10, 11, 12, 13, 14, 15, 16, 17, 175]) G0 u ∧ u r0 = some (5, kn) ∧ jKx r0 G0 u H0 t.heap) (jA base)) (LC - H0.size) (LS - jTot H0) (jA base) := by
  refine Met.ofW (cc := cX3_init) (maxL := 5) (ret := none) (by decide) rfl ?_
  intro p e s m args below meth c s₁ Bd hml hv
  obtain ⟨rfl, hH0, hX, hG, hg_r1, hg_r2, hg_r3, hg_r4, hraw0, hnr0, hbr0, hP0, hLC0, hLS0, hp0, hp1, hp2, hp3, hp4, hp5⟩ := hv
  have hK := hG.1
  have hx := Bd.exec
  have hb := Bd.bytes
  have hr := Bd.returns
  have hts := atoms_spec (ws := (jw yX3_init cX3_init 5 none)) Bd.pre
  have htw : ∀ w ∈ jWl, w.before _ s = true := fun w h => hts w (List.mem_cons_of_mem _ h)
  have hown : s.vm.findClass RX3 = some m.cls := findClass_of_methodNamed Bd.named
  have hlocks := Bd.notSynchronized
  obtain ⟨Q, hQ⟩ : ∃ Q, Q = MQ below (va_Qv (S := jT) (fun u => True) (fun u t => jRa (dC, dI) B base G0 u EX3_initP H0 (0) (0) [] t.heap ∧ (jNk [0, 1, 2, 3, 4, 6, 7, 8, 9, 10, 11, 12, 13, 14, 15, 16, 17, 175]) G0 u ∧ u r0 = some (5, kn) ∧ jKx r0 G0 u H0 t.heap) (jA base)) ([.ref r0, .ref r1, .ref r2, .ref r3, .ref r4] : List Value).toArray s (LC - H0.size) (LS - jTot H0) (jA base) := ⟨_, rfl⟩
  rw [← hQ]
  have hl := lv_entry ([.ref r0, .ref r1, .ref r2, .ref r3, .ref r4]) (n := 5) (Nat.le_of_ble_eq_true rfl)
  rw [lg_entry_eq]
  generalize (lg_sl ([.ref r0, .ref r1, .ref r2, .ref r3, .ref r4]) ++ List.replicate (5 - (lg_sl ([.ref r0, .ref r1, .ref r2, .ref r3, .ref r4])).length) Slot.unset).toArray = ls at hl ⊢
  have hl : lv_has ls 5 [(0, .ref r0), (1, .ref r1), (2, .ref r2), (3, .ref r3), (4, .ref r4)] := hl
  generalize hR : (headSpec (jw yX3_init cX3_init 5 none) ({ frames := 1, cells := LC - H0.size, slots := LS - jTot H0, locals := 31 })).room = R
  subst hH0
  have hh : jSt (dC, dI) B base G0 G0 EX3_initP s.heap 0 0 [] [] [] s.heap [] := jSt.start hX hP0 jMc.nil jIs.nil
  clear hX hP0
  have hk0 : (0 : Int32).toInt = 0 := by decide
  have hk1 : (1 : Int32).toInt = 1 := by decide
  have hly_5_0 := htw (u_lay RX3 TX3 0) (jWc_wsX30 _ (u_in_lay (by decide)))
  have hly_5_1 := htw (u_lay RX3 TX3 1) (jWc_wsX30 _ (u_in_lay (by decide)))
  have hly_5_2 := htw (u_lay RX3 TX3 2) (jWc_wsX30 _ (u_in_lay (by decide)))
  have hly_5_3 := htw (u_lay RX3 TX3 3) (jWc_wsX30 _ (u_in_lay (by decide)))
  have hlk_9 := (htw (.fieldLink RX3 9 "ProofServer$Goal" "variables" "[I") (jWr_83 _ (List.mem_of_getElem? (i := 10) rfl)))
  have hlk_15 := (htw (.fieldLink RX3 15 "ProofServer$Goal" "names" "[I") (jWr_83 _ (List.mem_of_getElem? (i := 11) rfl)))
  have hlk_18 := (htw (.fieldLink RX3 18 "ProofServer$Goal" "hypotheses" "[[I") (jWr_83 _ (List.mem_of_getElem? (i := 12) rfl)))
  have hlk_22 := (htw (.fieldLink RX3 22 "ProofServer$Goal" "formula" "[I") (jWr_83 _ (List.mem_of_getElem? (i := 13) rfl)))
  have hbs : base ≤ s.heap.size := Nat.le_of_lt (Nat.lt_of_le_of_lt hbr0 hraw0.lt)
  have hRc : R.cells = LC - s.heap.size := by rw [← hR]; rfl
  have hRs : R.slots = LS - jTot s.heap := by rw [← hR]; rfl
  have hin2 : meth.name = "<init>" := (name_of_methodNamed Bd.named Bd.method).1
  have hkp : jKx r0 G0 G0 s.heap s.heap := jKx.rf
  refine lv_aload_n hx hb dX3_init_0 rfl (lv_at hl 0 rfl) ?_
  refine W.objInit hx hb hown (htw (.methodLink RX3 3 objectInit) (jWr_83 _ (List.mem_of_getElem? (i := 9) rfl))) (htw (.instanceMethod objectInit) (jWr_1 _ (List.mem_of_getElem? (i := 10) rfl))) (htw (.code objectInit ⟨#[0xb1]⟩ 1 none) (jWr_1 _ (List.mem_of_getElem? (i := 11) rfl))) rfl (by rw [hml]; exact hl.1) rfl dX3_init_1 (by rw [← hR]; exact Nat.le_of_ble_eq_true rfl) (by rw [← hR]; exact Nat.le_of_ble_eq_true rfl) ?_
  refine W.eq (g2 := F0 m 4 ls []) rfl ?_
  refine lv_aload_n hx hb dX3_init_4 rfl (lv_at hl 0 rfl) ?_
  refine lv_aload_n hx hb dX3_init_5 rfl (lv_at hl 1 rfl) ?_
  refine j7_putRF hx hb hown hK hh hB hAp hraw0 hnr0 hbr0 (C := RX3) (T := TX3) (N := 4) rfl (i := 0) (by decide) (Nat.le_of_ble_eq_true rfl) hly_5_0 rfl hin2 rfl hlk_9 (ty := (.array .int)) (v := .ref r1) (by decide +kernel) rfl rfl dX3_init_6 (fun H_1 locs_1 hraw_1 hr_1 hh_1 => ?_)
  have hraw_1 : va_at (dC, dI) vwCl (r0, .inr (5, [.ref r1, .null, .null, .null])) H_1 := hraw_1
  have hkp_2 := hkp.put hr_1
  clear hh
  refine lv_aload_n hx hb dX3_init_9 rfl (lv_at hl 0 rfl) ?_
  refine lv_aload_n hx hb dX3_init_10 rfl (lv_at hl 2 rfl) ?_
  refine j7_putRF hx hb hown hK hh_1 hB hAp hraw_1 hnr0 hbr0 (C := RX3) (T := TX3) (N := 4) rfl (i := 1) (by decide) (Nat.le_of_ble_eq_true rfl) hly_5_1 rfl hin2 rfl hlk_15 (ty := (.array .int)) (v := .ref r2) (by decide +kernel) rfl rfl dX3_init_11 (fun H_3 locs_3 hraw_3 hr_3 hh_3 => ?_)
  have hraw_3 : va_at (dC, dI) vwCl (r0, .inr (5, [.ref r1, .ref r2, .null, .null])) H_3 := hraw_3
  have hkp_4 := hkp_2.put hr_3
  clear hh_1
  refine lv_aload_n hx hb dX3_init_14 rfl (lv_at hl 0 rfl) ?_
  refine lv_aload_n hx hb dX3_init_15 rfl (lv_at hl 3 rfl) ?_
  refine j7_putRF hx hb hown hK hh_3 hB hAp hraw_3 hnr0 hbr0 (C := RX3) (T := TX3) (N := 4) rfl (i := 2) (by decide) (Nat.le_of_ble_eq_true rfl) hly_5_2 rfl hin2 rfl hlk_18 (ty := (.array (.array .int))) (v := .ref r3) (by decide +kernel) rfl rfl dX3_init_16 (fun H_5 locs_5 hraw_5 hr_5 hh_5 => ?_)
  have hraw_5 : va_at (dC, dI) vwCl (r0, .inr (5, [.ref r1, .ref r2, .ref r3, .null])) H_5 := hraw_5
  have hkp_6 := hkp_4.put hr_5
  clear hh_3
  refine lv_aload_n hx hb dX3_init_19 rfl (lv_at hl 0 rfl) ?_
  refine lv_aload hx hb dX3_init_20 (lv_at hl 4 rfl) ?_
  refine j7_putRF hx hb hown hK hh_5 hB hAp hraw_5 hnr0 hbr0 (C := RX3) (T := TX3) (N := 4) rfl (i := 3) (by decide) (Nat.le_of_ble_eq_true rfl) hly_5_3 rfl hin2 rfl hlk_22 (ty := (.array .int)) (v := .ref r4) (by decide +kernel) rfl rfl dX3_init_22 (fun H_7 locs_7 hraw_7 hr_7 hh_7 => ?_)
  have hraw_7 : va_at (dC, dI) vwCl (r0, .inr (5, [.ref r1, .ref r2, .ref r3, .ref r4])) H_7 := hraw_7
  have hkp_8 := hkp_6.put hr_7
  clear hh_5
  have hsz_9 := hh_7.2.2.2.2.2.1
  have htt_9 := hh_7.2.2.2.2.2.2.1
  refine W.room (fun hrc_9 hrs_9 => ?_)
  refine W.widen (k := LC - s.heap.size) (n := LS - jTot s.heap) (by omega) (by omega) ?_
  rw [hQ]
  have hle_10 : jLe G0 (va_up G0 r0 (some (5, kn))) := jLe.typ hnr0
  have hg_11 := hle_10 _ _ hg_r1
  have hg_12 := hle_10 _ _ hg_r2
  have hg_13 := hle_10 _ _ hg_r3
  have hg_14 := hle_10 _ _ hg_r4
  have hg_15 := (jLe.rf).tr hle_10 _ _ hg_r1
  have hg_16 := (jLe.rf).tr hle_10 _ _ hg_r2
  have hg_17 := (jLe.rf).tr hle_10 _ _ hg_r3
  have hg_18 := (jLe.rf).tr hle_10 _ _ hg_r4
  have hfa_10 : jGv kn (va_up G0 r0 (some (5, kn))) (.ref r1) ∧ jGn kn (va_up G0 r0 (some (5, kn))) (.ref r2) ∧ jGh kn (va_up G0 r0 (some (5, kn))) (.ref r3) ∧ jGfo kn (va_up G0 r0 (some (5, kn))) (.ref r4) ∧ True := ⟨⟨_, _, rfl, hg_15, by omega, by omega, by omega⟩, ⟨_, rfl, jSz hg_16 (by omega)⟩, ⟨_, 315, rfl, jSz hg_17 (by omega), by omega, by omega, by omega, by omega, by omega⟩, Or.inr ⟨_, _, rfl, hg_18, by omega, by omega, by omega⟩, trivial⟩
  have hh_10 := hh_7.typ (k := 5) (n := kn) hB hnr0 hbr0 hraw_7.lt (jOb.of (C := RX3) (T := TX3) (N := 4) (F := F5) hB5 rfl hraw_7 (show jFx (F5 kn (va_up G0 r0 (some (5, kn)))) [.ref r1, .ref r2, .ref r3, .ref r4] from hfa_10))
  have hgn_10 : (va_up G0 r0 (some (5, kn))) r0 = some (5, kn) := jUp_self
  have hN_10 : (jNk [0, 1, 2, 3, 4, 6, 7, 8, 9, 10, 11, 12, 13, 14, 15, 16, 17, 175]) G0 (va_up G0 r0 (some (5, kn))) := jNk.new (by decide)
  have hNn_10 : (jNk [0, 1, 2, 3, 4, 6, 7, 8, 9, 10, 11, 12, 13, 14, 15, 16, 17, 175]) G0 (va_up G0 r0 (some (5, kn))) := (jNk.rf).tr hN_10
  have hkp_19 := hkp_8.typ (t := some (5, kn))
  exact W.vret hx hb hr (fun t ht hW => ⟨⟨(va_up G0 r0 (some (5, kn))), rfl, trivial, ⟨hh_10.ra (by first | omega | (simp only; omega)) (by first | omega | (simp only; omega)) (M1 := []) [] rfl ht, hNn_10, hgn_10, by rw [ht]; exact hkp_19⟩⟩, by rw [ht]; try exact hh_10.1.1, fun q h9 hq => by rw [ht]; try exact hh_10.1.2.1 q h9 hq⟩) hh_10.1.2.2 dX3_init_25
set_option maxHeartbeats 4000000 in
set_option maxRecDepth 20000 in
theorem uX9_longer_Z (l : Launch) (dC : Nat → ClassId) (dI : Nat → Nat → Nat) (ca : Nat → ClassId) (base : Nat) (B : jF) (hB : jBok B) (hAp : jAp (dC, dI)) (hB280 : ∀ n G a H, B 280 n G a H ↔ jAr (dC, dI) (ca 1) (fun j z => -1 ≤ z.toInt) n a H) (hB313 : ∀ n G a H, B 313 n G a H ↔ jAq (dC, dI) (ca 8) (jQk 280 80) n G a H) (hB315 : ∀ n G a H, B 315 n G a H ↔ jAqZ (dC, dI) (ca 8) n a H) (G0 : jT) (H0 : Heap) (r0 : Nat) (n0 : Nat) (LC LS : Nat) : Met l yX9_longer_ (jw yX9_longer_ cX9_longer_ 4 (some (.array (.array .int)))) ({ frames := 0, cells := LC - H0.size, slots := LS - jTot H0, locals := 0 }) (va_Pc [.ref r0, .null] (fun U => U.heap = H0 ∧ jX B base G0 [] H0 ∧ jG dC dI ca base U ∧ jK5 dC dI ca U ∧ G0 r0 = some (313, n0) ∧ jP (dC, dI) G0 H0 [] ∧ H0.size + 1 ≤ LC ∧ jTot H0 + n0 + 1 ≤ LS ∧ n0 ≤ 100)) (jQx (S := Nat × jT) (fun v u => jRf u.2 315 u.1 v ∧ jNwv v H0 ∧ u.1 = n0 + 1) (fun u t => jRa (dC, dI) B base G0 u.2 EX9_longer_Z H0 (1) (u.1) [] t.heap ∧ (jNk [0, 1, 2, 3, 4, 5, 6, 7, 8, 9, 10, 11, 12, 13, 14, 15, 16, 17, 175]) G0 u.2 ∧ jKe G0 u.2 H0 t.heap) (jA base)) (LC - H0.size) (LS - jTot H0) (jA base) := by
  refine Met.ofW (cc := cX9_longer_) (maxL := 4) (ret := (some (.array (.array .int)))) (by decide) rfl ?_
  intro p e s m args below meth c s₁ Bd hml hv
  obtain ⟨rfl, hH0, hX, hG, hK5, hg_r0, hP0, hLC0, hLS0, hp0⟩ := hv
  have hK := hG.1
  have hx := Bd.exec
  have hb := Bd.bytes
  have hr := Bd.returns
  have hts := atoms_spec (ws := (jw yX9_longer_ cX9_longer_ 4 (some (.array (.array .int))))) Bd.pre
  have htw : ∀ w ∈ jWl, w.before _ s = true := fun w h => hts w (List.mem_cons_of_mem _ h)
  have hown : s.vm.findClass RX9 = some m.cls := findClass_of_methodNamed Bd.named
  have hlocks := Bd.notSynchronized
  obtain ⟨Q, hQ⟩ : ∃ Q, Q = MQ below (jQx (S := Nat × jT) (fun v u => jRf u.2 315 u.1 v ∧ jNwv v H0 ∧ u.1 = n0 + 1) (fun u t => jRa (dC, dI) B base G0 u.2 EX9_longer_Z H0 (1) (u.1) [] t.heap ∧ (jNk [0, 1, 2, 3, 4, 5, 6, 7, 8, 9, 10, 11, 12, 13, 14, 15, 16, 17, 175]) G0 u.2 ∧ jKe G0 u.2 H0 t.heap) (jA base)) ([.ref r0, .null] : List Value).toArray s (LC - H0.size) (LS - jTot H0) (jA base) := ⟨_, rfl⟩
  rw [← hQ]
  have hl := lv_entry ([.ref r0, .null]) (n := 4) (Nat.le_of_ble_eq_true rfl)
  rw [lg_entry_eq]
  generalize (lg_sl ([.ref r0, .null]) ++ List.replicate (4 - (lg_sl ([.ref r0, .null])).length) Slot.unset).toArray = ls at hl ⊢
  have hl : lv_has ls 4 [(0, .ref r0), (1, .null)] := hl
  generalize hR : (headSpec (jw yX9_longer_ cX9_longer_ 4 (some (.array (.array .int)))) ({ frames := 0, cells := LC - H0.size, slots := LS - jTot H0, locals := 0 })).room = R
  subst hH0
  have hh : jSt (dC, dI) B base G0 G0 EX9_longer_Z s.heap 0 0 [] [] [] s.heap [] := jSt.start hX hP0 jMc.nil jIs.nil
  clear hX hP0
  have hk0 : (0 : Int32).toInt = 0 := by decide
  have hk1 : (1 : Int32).toInt = 1 := by decide
  have hbs : base ≤ s.heap.size := Nat.le_of_lt (Nat.lt_of_le_of_lt (hh.ab hg_r0).1 (hh.ab hg_r0).2)
  have hRc : R.cells = LC - s.heap.size := by rw [← hR]; rfl
  have hRs : R.slots = LS - jTot s.heap := by rw [← hR]; rfl
  have hkp : jKe G0 G0 s.heap s.heap := jKe.rf
  refine lv_aload_n hx hb dX9_longer__0 rfl (lv_at hl 0 rfl) ?_
  refine j7_qlen hx hb hK5.1 hh hB313 0 rfl (by decide) hg_r0 (by omega) dX9_longer__1 (fun z_1 hz_1 => ?_)
  refine lv_iconst (v := 1) hx hb dX9_longer__2 (by decide) ?_
  refine lv_iadd hx hb dX9_longer__3 ?_
  refine lv_topi (fun z_2 ez_2 => ?_)
  have hz_2 : z_2.toInt = z_1.toInt + 1 := by rw [ez_2]; exact jb_iadd2 (rfl) ((by decide)) (by omega)
  have hsz_3 := hh.2.2.2.2.2.1
  have htt_3 := hh.2.2.2.2.2.2.1
  have hsy_3 : s.heap.size ≤ s.heap.size := hh.1.1
  refine j7_newaR hx hb hown (show (Cond.classLink RX9 18 (FieldType.array .int).toString).before _ s = true from htw (.classLink RX9 18 "[I") (jWr_8 _ (List.mem_of_getElem? (i := 19) rfl))) hK5 hh hB (x := z_2.toInt) rfl (by omega) (by rw [hRc]; omega) (by rw [hRs]; omega) dX9_longer__4 (fun H_3 hfr_3 hnr_3 hraw_3 hh_3 => ?_)
  have hke_3 : jKe G0 G0 s.heap H_3 := jKe.raw hfr_3
  have hbr_3 : base ≤ s.heap.size := Nat.le_trans hbs hsy_3
  obtain ⟨nq_3, hnq_3⟩ : ∃ q : Nat, q = (z_2.toInt).toNat := ⟨_, rfl⟩
  rw [← hnq_3] at hraw_3 hh_3 ⊢
  clear hh
  have hkp_4 := hkp.tr hke_3
  refine lv_astore_n (lv' := [(2, .ref s.heap.size), (0, .ref r0), (1, .null)]) hx hb dX9_longer__7 rfl hl (by decide) rfl (fun ls hl => ?_)
  refine lv_iconst (v := 0) hx hb dX9_longer__8 (by decide) ?_
  refine lv_istore_n (lv' := [(3, .int 0), (2, .ref s.heap.size), (0, .ref r0), (1, .null)]) hx hb dX9_longer__9 rfl hl (by decide) rfl (fun ls hl => ?_)
  have L10 : ∀ (N : Nat) (fq_5 : Nat → Option Nat) (v3_5 : Int32) (H_5 : Heap) (locs_5 : List Loc), jSt (dC, dI) B base G0 G0 EX9_longer_Z s.heap (0 + 1) (0 + nq_3) [] [] [] H_5 locs_5 → va_at (dC, dI) vwCl (s.heap.size, .inl (ca 8, nq_3, .inr (.inr (.inr (.inr fq_5))))) H_5 → jKe G0 G0 s.heap H_5 → (0 ≤ v3_5.toInt ∧ v3_5.toInt ≤ n0) → (n0 - v3_5.toInt : Int) < N → ∀ ls : Array Slot, lv_has ls 4 [(0, .ref r0), (1, .null), (2, .ref s.heap.size), (3, .int v3_5)] → W p l e R s m ([.ref r0, .null] : List Value).toArray below meth c H_5 locs_5 (0 + 1) (0 + nq_3) Q (F0 m 10 ls []) := by
    intro N
    induction N with
    | zero => intro fq_5 v3_5 H_5 locs_5 hh_5 hraw_5 hkp_5 hi_5 hm; exact absurd hm (by omega)
    | succ N L10 =>
      intro fq_5 v3_5 H_5 locs_5 hh_5 hraw_5 hkp_5 hi_5 hm_5 ls hl
      obtain ⟨hi_5_0, hi_5_1⟩ := hi_5
      refine lv_iload_n hx hb dX9_longer__10 rfl (lv_at hl 3 rfl) ?_
      refine lv_aload_n hx hb dX9_longer__11 rfl (lv_at hl 0 rfl) ?_
      refine j7_qlen hx hb hK5.1 hh_5 hB313 0 rfl (by decide) hg_r0 (by omega) dX9_longer__12 (fun z_6 hz_6 => ?_)
      refine lv_icmp_ge (tgt := 28) hx hb dX9_longer__13 (by decide) (fun c_7 => ?_) (fun c_7 => ?_)
      · skip
        have c_7' : v3_5.toInt ≥ z_6.toInt := jb_ge (rfl) (rfl) c_7
        refine lv_aload_n hx hb dX9_longer__28 rfl (lv_at hl 2 rfl) ?_
        refine lv_aload_n hx hb dX9_longer__29 rfl (lv_at hl 0 rfl) ?_
        refine j7_qlen hx hb hK5.1 hh_5 hB313 0 rfl (by decide) hg_r0 (by omega) dX9_longer__30 (fun z_8 hz_8 => ?_)
        refine j7_nld_n hx hb dX9_longer__31 rfl (lv_at hl 1 rfl) ?_
        refine j7_qastAN hx hb hK5 hh_5 hB hraw_5 hnr_3 hbr_3 (x := z_8.toInt) (rfl) (by omega) dX9_longer__32 (fun H_9 locs_9 hraw_9 hr_9 hh_9 => ?_)
        have hkp_10 := hkp_5.st hsy_3 hr_9
        clear hr_9
        clear hh_5
        refine lv_aload_n hx hb dX9_longer__33 rfl (lv_at hl 2 rfl) ?_
        have hsz_11 := hh_9.2.2.2.2.2.1
        have htt_11 := hh_9.2.2.2.2.2.2.1
        refine W.room (fun hrc_11 hrs_11 => ?_)
        refine W.widen (k := LC - s.heap.size) (n := LS - jTot s.heap) (by omega) (by omega) ?_
        rw [hQ]
        have hle_12 : jLe G0 (va_up G0 s.heap.size (some (315, nq_3))) := jLe.typ hnr_3
        have hh_12 := hh_9.typ (k := 315) (n := nq_3) hB hnr_3 hbr_3 hraw_9.lt (jAqZ.of hB315 hraw_9 (fun _ => jUpN (by omega)))
        have hgn_12 : (va_up G0 s.heap.size (some (315, nq_3))) s.heap.size = some (315, nq_3) := jUp_self
        have hN_12 : (jNk [0, 1, 2, 3, 4, 5, 6, 7, 8, 9, 10, 11, 12, 13, 14, 15, 16, 17, 175]) G0 (va_up G0 s.heap.size (some (315, nq_3))) := jNk.new (by decide)
        have hNn_12 : (jNk [0, 1, 2, 3, 4, 5, 6, 7, 8, 9, 10, 11, 12, 13, 14, 15, 16, 17, 175]) G0 (va_up G0 s.heap.size (some (315, nq_3))) := (jNk.rf).tr hN_12
        have hkp_13 := hkp_10.typn (t := some (315, nq_3)) hsy_3
        exact W.aret (v := .ref s.heap.size) hx hb hr (Or.inr ⟨_, rfl⟩) (Or.inr ⟨_, rfl⟩) (fun t ht hW => ⟨⟨.ref s.heap.size, (nq_3, (va_up G0 s.heap.size (some (315, nq_3)))), rfl, ⟨⟨_, rfl, hgn_12⟩, ⟨_, rfl, hsy_3⟩, by (try dsimp only); first | omega | rfl | assumption | fail⟩, ⟨hh_12.ra (by first | omega | (simp only; omega)) (by first | omega | (simp only; omega)) (M1 := []) [] rfl ht, hNn_12, by rw [ht]; exact hkp_13⟩⟩, by rw [ht]; try exact hh_12.1.1, fun q h9 hq => by rw [ht]; try exact hh_12.1.2.1 q h9 hq⟩) hh_12.1.2.2 dX9_longer__34
      · skip
        have c_7' : v3_5.toInt < z_6.toInt := jb_ge_n (rfl) (rfl) c_7
        refine lv_aload_n hx hb dX9_longer__16 rfl (lv_at hl 2 rfl) ?_
        refine lv_iload_n hx hb dX9_longer__17 rfl (lv_at hl 3 rfl) ?_
        refine lv_aload_n hx hb dX9_longer__18 rfl (lv_at hl 0 rfl) ?_
        refine lv_iload_n hx hb dX9_longer__19 rfl (lv_at hl 3 rfl) ?_
        refine j7_qaldA hx hb hK5 hh_5 hB313 (by decide) hg_r0 (x := v3_5.toInt) (rfl) (by omega) dX9_longer__20 (fun o_14 ho_14 => ?_)
        obtain ⟨el_15, nel_15, rfl, hg_el_15, hn_el_15⟩ := ho_14
        simp only [va_rf]
        refine j7_qastA hx hb hK5 hh_5 hB hraw_5 hnr_3 hbr_3 (x := v3_5.toInt) (rfl) (by omega) hB280 (by decide) hg_el_15 dX9_longer__21 (fun H_16 locs_16 hraw_16 hr_16 hh_16 => ?_)
        have hkp_17 := hkp_5.st hsy_3 hr_16
        clear hr_16
        clear hh_5
        obtain ⟨z_18, ez_18⟩ : ∃ y : Int32, y = v3_5 + 1 := ⟨_, rfl⟩
        refine lv_iinc (v := z_18) (lv' := [(3, .int z_18), (0, .ref r0), (1, .null), (2, .ref s.heap.size)]) hx hb dX9_longer__22 hl (k := 3) rfl (by rw [ez_18]; rfl) (by decide) rfl (fun ls hl => ?_)
        have hz_18 : z_18.toInt = v3_5.toInt + 1 := by rw [ez_18]; exact jb_iadd2 (rfl) (by decide) (by omega)
        refine lv_goto (tgt := 10) hx hb dX9_longer__25 (by decide) ?_
        refine W.tight (c2 := (0 + 1)) (n2 := (0 + nq_3)) hh_16.2.2.2.2.2.1 hh_16.2.2.2.2.2.2.1 ?_
        exact L10 (va_up fq_5 (v3_5.toInt).toNat (some el_15)) z_18 _ _ hh_16 (hraw_16) (hkp_17) (by first | omega | (refine ⟨?_, ?_⟩ <;> (first | omega | rfl | assumption | decide | exact Or.inl rfl | exact Or.inr rfl | (simp only; omega)))) (by omega) _ (lv_sub hl [1, 2, 3, 0] rfl)
  refine W.tight (c2 := (0 + 1)) (n2 := (0 + nq_3)) hh_3.2.2.2.2.2.1 hh_3.2.2.2.2.2.2.1 ?_
  exact L10 (n0 - (0 : Int32).toInt : Int).toNat.succ (fun _ => none) 0 _ _ hh_3 (hraw_3) (hkp_4) (by first | omega | (refine ⟨?_, ?_⟩ <;> (first | omega | rfl | assumption | decide | exact Or.inl rfl | exact Or.inr rfl | (simp only; omega)))) (by omega) _ (lv_sub hl [2, 3, 1, 0] rfl)
set_option maxHeartbeats 4000000 in
set_option maxRecDepth 20000 in
theorem uX3_withHypothesisZ (l : Launch) (dC : Nat → ClassId) (dI : Nat → Nat → Nat) (ca : Nat → ClassId) (base : Nat) (B : jF) (hB : jBok B) (hAp : jAp (dC, dI)) (hB5 : ∀ n G a H, B 5 n G a H ↔ jOb (dC, dI) 5 4 (F5 n G) a H) (hB101 : ∀ n G a H, B 101 n G a H ↔ jAr (dC, dI) (ca 1) (fun j z => True) n a H) (hB280 : ∀ n G a H, B 280 n G a H ↔ jAr (dC, dI) (ca 1) (fun j z => -1 ≤ z.toInt) n a H) (hB313 : ∀ n G a H, B 313 n G a H ↔ jAq (dC, dI) (ca 8) (jQk 280 80) n G a H) (hB315 : ∀ n G a H, B 315 n G a H ↔ jAqZ (dC, dI) (ca 8) n a H) (G0 : jT) (H0 : Heap) (r0 : Nat) (a1 : Int32) (r3 : Nat) (n0 : Nat) (n3 : Nat) (LC LS : Nat) : Met l yX3_withHypothesis (jw yX3_withHypothesis cX3_withHypothesis 4 (some (.object "ProofServer$Goal"))) ({ frames := 3, cells := LC - H0.size, slots := LS - jTot H0, locals := 105 }) (va_Pc [.ref r0, .int a1, .null, .ref r3] (fun U => U.heap = H0 ∧ jX B base G0 [] H0 ∧ jG dC dI ca base U ∧ jK5 dC dI ca U ∧ G0 r0 = some (5, n0) ∧ G0 r3 = some (280, n3) ∧ jP (dC, dI) G0 H0 [] ∧ H0.size + 3 ≤ LC ∧ jTot H0 + 30 ≤ LS ∧ (n0 % 10 = 1 ∨ n0 % 10 = 2) ∧ n0 / 10 ≤ 8 ∧ n3 ≤ 80)) (jQx (S := Nat × jT) (fun v u => jRf u.2 5 u.1 v ∧ jNwv v H0 ∧ u.1 = 10 * (n0 / 10 + 1) + 4) (fun u t => jRa (dC, dI) B base G0 u.2 EX3_withHypothesisZ H0 (3) (24) [] t.heap ∧ (jNk [0, 1, 2, 3, 4, 6, 7, 8, 9, 10, 11, 12, 13, 14, 15, 16, 17, 175]) G0 u.2) (jA base)) (LC - H0.size) (LS - jTot H0) (jA base) := by
  refine Met.ofW (cc := cX3_withHypothesis) (maxL := 4) (ret := (some (.object "ProofServer$Goal"))) (by decide) rfl ?_
  intro p e s m args below meth c s₁ Bd hml hv
  obtain ⟨rfl, hH0, hX, hG, hK5, hg_r0, hg_r3, hP0, hLC0, hLS0, hp0, hp1, hp2⟩ := hv
  have hK := hG.1
  have hx := Bd.exec
  have hb := Bd.bytes
  have hr := Bd.returns
  have hts := atoms_spec (ws := (jw yX3_withHypothesis cX3_withHypothesis 4 (some (.object "ProofServer$Goal")))) Bd.pre
  have htw : ∀ w ∈ jWl, w.before _ s = true := fun w h => hts w (List.mem_cons_of_mem _ h)
  have hown : s.vm.findClass RX3 = some m.cls := findClass_of_methodNamed Bd.named
  have hlocks := Bd.notSynchronized
  obtain ⟨Q, hQ⟩ : ∃ Q, Q = MQ below (jQx (S := Nat × jT) (fun v u => jRf u.2 5 u.1 v ∧ jNwv v H0 ∧ u.1 = 10 * (n0 / 10 + 1) + 4) (fun u t => jRa (dC, dI) B base G0 u.2 EX3_withHypothesisZ H0 (3) (24) [] t.heap ∧ (jNk [0, 1, 2, 3, 4, 6, 7, 8, 9, 10, 11, 12, 13, 14, 15, 16, 17, 175]) G0 u.2) (jA base)) ([.ref r0, .int a1, .null, .ref r3] : List Value).toArray s (LC - H0.size) (LS - jTot H0) (jA base) := ⟨_, rfl⟩
  rw [← hQ]
  have hl := lv_entry ([.ref r0, .int a1, .null, .ref r3]) (n := 4) (Nat.le_of_ble_eq_true rfl)
  rw [lg_entry_eq]
  generalize (lg_sl ([.ref r0, .int a1, .null, .ref r3]) ++ List.replicate (4 - (lg_sl ([.ref r0, .int a1, .null, .ref r3])).length) Slot.unset).toArray = ls at hl ⊢
  have hl : lv_has ls 4 [(0, .ref r0), (1, .int a1), (2, .null), (3, .ref r3)] := hl
  generalize hR : (headSpec (jw yX3_withHypothesis cX3_withHypothesis 4 (some (.object "ProofServer$Goal"))) ({ frames := 3, cells := LC - H0.size, slots := LS - jTot H0, locals := 105 })).room = R
  subst hH0
  have hh : jSt (dC, dI) B base G0 G0 EX3_withHypothesisZ s.heap 0 0 [] [] [] s.heap [] := jSt.start hX hP0 jMc.nil jIs.nil
  clear hX hP0
  have hk0 : (0 : Int32).toInt = 0 := by decide
  have hk1 : (1 : Int32).toInt = 1 := by decide
  have hly_5_0 := htw (u_lay RX3 TX3 0) (jWc_wsX30 _ (u_in_lay (by decide)))
  have hly_5_1 := htw (u_lay RX3 TX3 1) (jWc_wsX30 _ (u_in_lay (by decide)))
  have hly_5_2 := htw (u_lay RX3 TX3 2) (jWc_wsX30 _ (u_in_lay (by decide)))
  have hlk_9 := (htw (.fieldLink RX3 9 "ProofServer$Goal" "variables" "[I") (jWr_83 _ (List.mem_of_getElem? (i := 10) rfl)))
  have hlk_15 := (htw (.fieldLink RX3 15 "ProofServer$Goal" "names" "[I") (jWr_83 _ (List.mem_of_getElem? (i := 11) rfl)))
  have hlk_18 := (htw (.fieldLink RX3 18 "ProofServer$Goal" "hypotheses" "[[I") (jWr_83 _ (List.mem_of_getElem? (i := 12) rfl)))
  have hrg_a1 := jb_rng a1
  have hbs : base ≤ s.heap.size := Nat.le_of_lt (Nat.lt_of_le_of_lt (hh.ab hg_r0).1 (hh.ab hg_r0).2)
  have hRc : R.cells = LC - s.heap.size := by rw [← hR]; rfl
  have hRs : R.slots = LS - jTot s.heap := by rw [← hR]; rfl
  have hsz_1 := hh.2.2.2.2.2.1
  have htt_1 := hh.2.2.2.2.2.2.1
  refine j7_newo (k := 5) (C := RX3) (T := TX3) (N := 4) (fs := [.null, .null, .null, .null]) hx hb htw jWc_wsX30 (fun k => ([(.array .int), (.array .int), (.array (.array .int)), (.array .int)] : List FieldType).getD k .int) (by decide +kernel) hown (htw (.classLink RX3 10 RX3) (jWr_85 _ (List.mem_of_getElem? (i := 4) rfl))) (htw (.instantiable RX3 4) (jWr_82 _ (List.mem_of_getElem? (i := 9) rfl))) (htw (.initialized RX3) (jWr_82 _ (List.mem_of_getElem? (i := 10) rfl))) hK rfl (fun j hj => by rcases (by omega : j = 0 ∨ j = 1 ∨ j = 2 ∨ j = 3) with rfl | rfl | rfl | rfl <;> rfl) hh hB (by rw [hRc]; omega) (by rw [hRs]; omega) dX3_withHypothesis_0 (fun H_1 hraw_1 hfr_1 hnr_1 hh_1 => ?_)
  have hke_1 : jKe G0 G0 s.heap H_1 := jKe.raw hfr_1
  have hbr_1 : base ≤ s.heap.size := Nat.le_trans hbs hh.1.1
  have hsy_1 : s.heap.size ≤ s.heap.size := hh.1.1
  clear hh
  refine lv_dup hx hb dX3_withHypothesis_3 rfl ?_
  refine lv_aload_n hx hb dX3_withHypothesis_4 rfl (lv_at hl 0 rfl) ?_
  obtain ⟨v_2, hv_2, hh_3⟩ := hh_1.pin (C := RX3) (T := TX3) (N := 4) hB5 rfl (by decide) hg_r0 (i := 0) (by decide) rfl
  clear hh_1
  obtain ⟨variables_4, nvariables_4, rfl, hg_variables_4, hvavariables_4, hvbvariables_4, hvcvariables_4⟩ := hv_2
  refine j7_read hx hb hown hK (C := RX3) (T := TX3) (N := 4) rfl hly_5_0 hlk_9 (hh_3.at 0 rfl) dX3_withHypothesis_5 ?_
  refine lv_aload_n hx hb dX3_withHypothesis_8 rfl (lv_at hl 0 rfl) ?_
  obtain ⟨v_5, hv_5, hh_6⟩ := hh_3.pin (C := RX3) (T := TX3) (N := 4) hB5 rfl (by decide) hg_r0 (i := 1) (by decide) rfl
  clear hh_3
  obtain ⟨names_7, rfl, hg_names_7⟩ := hv_5
  refine j7_read hx hb hown hK (C := RX3) (T := TX3) (N := 4) rfl hly_5_1 hlk_15 (hh_6.at 0 rfl) dX3_withHypothesis_9 ?_
  refine lv_iload_n hx hb dX3_withHypothesis_12 rfl (lv_at hl 1 rfl) ?_
  have hsz_8 := hh_6.2.2.2.2.2.1
  have htt_8 := hh_6.2.2.2.2.2.2.1
  refine W.room (fun hrc_8 hrs_8 => ?_)
  refine j_callx (A0 := jA base) (H0 := s.heap) (va_runS (As := [.ref names_7, .int a1]) (rest := [.ref variables_4, .ref s.heap.size, .ref s.heap.size]) ⟨hx, hb, hml, hown, hts⟩ (uX9_longer l dC dI ca base B hB hAp hB101 G0 H_1 names_7 a1 (n0 / 10) LC LS) (va_cwS 2 hts (jgS (jWr_85 _ (List.mem_of_getElem? (i := 5) rfl)) (jWr_81 _ (List.mem_of_getElem? (i := 20) rfl)) (jWr_4 _ (List.mem_of_getElem? (i := 18) rfl)) (jWr_81 _ (List.mem_of_getElem? (i := 21) rfl))) rfl rfl rfl (by decide +kernel) ⟨by rw [← hR]; exact Nat.le_of_ble_eq_true rfl, by rw [← hR]; exact Nat.le_of_ble_eq_true rfl⟩) ⟨fun a U g mk q => by obtain ⟨q0, q1, q2, qK, q10, q11, q12⟩ := q; exact ⟨q0, q1, q2, jG.calling g mk a qK, q10, q11, q12⟩, fun U hU hW => ⟨rfl, hU, hh_6.2.1, hG.step hW hU hh_6.1, hg_names_7, jP.nil, by first | omega | rfl | assumption | decide | exact Or.inl rfl | exact Or.inr rfl | (simp only; omega)⟩⟩ rfl rfl hl.1 rfl (lv_room (Nat.le_of_ble_eq_true rfl)) dX3_withHypothesis_13 ⟨by rw [hRc]; omega, by rw [hRs]; omega⟩) hh_6.1 (fun q _ h => h) (fun q h => h) (fun r_9 u_8 t_8 H_8 locs_8 ht_8 hvm_8 hr_9 hb_8 hz_8 hk_8 hS_8 => ?_)
  rw [ht_8] at hb_8
  obtain ⟨m_ret_8, G_8⟩ := u_8
  simp only at hb_8
  obtain ⟨⟨hb_81, hb_82, hb_83, hb_84, hb_85, hb_86⟩, hN_8, hbK_8⟩ := hb_8
  have hN_8 : (jNk [0, 1, 2, 3, 4, 6, 7, 8, 9, 10, 11, 12, 13, 14, 15, 16, 17, 175]) G0 G_8 := hN_8.sub (by decide)
  have hh_8 : jSt (dC, dI) B base G0 G_8 EX3_withHypothesisZ s.heap ((0 + 1) + (1)) ((0 + 4) + (m_ret_8)) [(r0, 5, 1, .ref names_7), (r0, 5, 0, .ref variables_4)] [] [] H_8 locs_8 := (hh_6.callG hb_81 hb_82 hb_83 hb_84 hb_85 hS_8 rfl (L1 := [(r0, 5, 1, .ref names_7), (r0, 5, 0, .ref variables_4)]) [0, 1] rfl rfl (M1 := []) [] rfl rfl (I1 := []) [] rfl rfl).more hb_86
  have hNn_8 : (jNk [0, 1, 2, 3, 4, 6, 7, 8, 9, 10, 11, 12, 13, 14, 15, 16, 17, 175]) G0 G_8 := (jNk.rf).tr hN_8
  have hg_10 := hb_82 _ _ hg_r0
  have hg_11 := hb_82 _ _ hg_r3
  have hg_12 := hb_82 _ _ hg_variables_4
  have hg_13 := hb_82 _ _ hg_names_7
  obtain ⟨hr_9, hr_9n, hr_9p⟩ := hr_9
  try simp only at hr_9p
  have hraw_14n := hbK_8.nr hraw_1.lt hnr_1
  have hraw_14 := hraw_1.kept (hbK_8.1 _ hraw_1.lt)
  obtain ⟨ret_15, rfl, hg_ret_15⟩ := hr_9
  have hsy_8 : s.heap.size ≤ ret_15 := Nat.le_trans hh_6.1.1 hr_9n.le
  refine lv_aload_n hx hb dX3_withHypothesis_16 rfl (lv_at hl 0 rfl) ?_
  obtain ⟨v_16, hv_16, hh_17⟩ := hh_8.pin (C := RX3) (T := TX3) (N := 4) hB5 rfl (by decide) hg_10 (i := 2) (by decide) rfl
  clear hh_8
  obtain ⟨hypotheses_18, khypotheses_18, rfl, hg_hypotheses_18, hhahypotheses_18, hhbhypotheses_18, hhchypotheses_18, hhdhypotheses_18, hhehypotheses_18⟩ := hv_16
  obtain rfl : khypotheses_18 = 313 := hhbhypotheses_18 (by omega)
  refine j7_read hx hb hown hK (C := RX3) (T := TX3) (N := 4) rfl hly_5_2 hlk_18 (hh_17.at 0 rfl) dX3_withHypothesis_17 ?_
  refine j7_nld_n hx hb dX3_withHypothesis_20 rfl (lv_at hl 2 rfl) ?_
  have hsz_19 := hh_17.2.2.2.2.2.1
  have htt_19 := hh_17.2.2.2.2.2.2.1
  refine W.room (fun hrc_19 hrs_19 => ?_)
  refine j_callx (A0 := jA base) (H0 := s.heap) (va_runS (As := [.ref hypotheses_18, .null]) (rest := [.ref ret_15, .ref variables_4, .ref s.heap.size, .ref s.heap.size]) ⟨hx, hb, hml, hown, hts⟩ (uX9_longer_Z l dC dI ca base B hB hAp hB280 hB313 hB315 G_8 H_8 hypotheses_18 (n0 / 10) LC LS) (va_cwS 2 hts (jgS (jWr_85 _ (List.mem_of_getElem? (i := 6) rfl)) (jWr_83 _ (List.mem_of_getElem? (i := 4) rfl)) (jWr_4 _ (List.mem_of_getElem? (i := 18) rfl)) (jWr_83 _ (List.mem_of_getElem? (i := 5) rfl))) rfl rfl rfl (by decide +kernel) ⟨by rw [← hR]; exact Nat.le_of_ble_eq_true rfl, by rw [← hR]; exact Nat.le_of_ble_eq_true rfl⟩) ⟨fun a U g mk q => by obtain ⟨q0, q1, q2, qK, q10, q11, q12, q13⟩ := q; exact ⟨q0, q1, q2, jG.calling g mk a qK, (jK5.moved (Vm.Alike.refl U.vm) q10), q11, q12, q13⟩, fun U hU hW => ⟨rfl, hU, hh_17.2.1, hG.step hW hU hh_17.1, jK5.moved hW.alike hK5, hg_hypotheses_18, jP.nil, by first | omega | rfl | assumption | decide | exact Or.inl rfl | exact Or.inr rfl | (simp only; omega)⟩⟩ rfl rfl hl.1 rfl (lv_room (Nat.le_of_ble_eq_true rfl)) dX3_withHypothesis_21 ⟨by rw [hRc]; omega, by rw [hRs]; omega⟩) hh_17.1 (fun q _ h => h) (fun q h => h) (fun r_20 u_19 t_19 H_19 locs_19 ht_19 hvm_19 hr_20 hb_19 hz_19 hk_19 hS_19 => ?_)
  rw [ht_19] at hb_19
  obtain ⟨m_ret_19, G_19⟩ := u_19
  simp only at hb_19
  obtain ⟨⟨hb_191, hb_192, hb_193, hb_194, hb_195, hb_196⟩, hN_19, hbK_19⟩ := hb_19
  have hN_19 : (jNk [0, 1, 2, 3, 4, 6, 7, 8, 9, 10, 11, 12, 13, 14, 15, 16, 17, 175]) G_8 G_19 := hN_19.sub (by decide)
  have hh_19 : jSt (dC, dI) B base G0 G_19 EX3_withHypothesisZ s.heap (((0 + 1) + (1)) + (1)) (((0 + 4) + (m_ret_8)) + (m_ret_19)) [(r0, 5, 2, .ref hypotheses_18), (r0, 5, 1, .ref names_7), (r0, 5, 0, .ref variables_4)] [] [] H_19 locs_19 := (hh_17.callG hb_191 hb_192 hb_193 hb_194 hb_195 hS_19 rfl (L1 := [(r0, 5, 2, .ref hypotheses_18), (r0, 5, 1, .ref names_7), (r0, 5, 0, .ref variables_4)]) [0, 1, 2] rfl rfl (M1 := []) [] rfl rfl (I1 := []) [] rfl rfl).more hb_196
  have hNn_19 : (jNk [0, 1, 2, 3, 4, 6, 7, 8, 9, 10, 11, 12, 13, 14, 15, 16, 17, 175]) G0 G_19 := (hNn_8).tr hN_19
  have hg_21 := hb_192 _ _ hg_10
  have hg_22 := hb_192 _ _ hg_11
  have hg_23 := hb_192 _ _ hg_ret_15
  have hg_24 := hb_192 _ _ hg_12
  have hg_25 := hb_192 _ _ hg_hypotheses_18
  have hg_26 := hb_192 _ _ hg_13
  obtain ⟨hr_20, hr_20n, hr_20p⟩ := hr_20
  try simp only at hr_20p
  have hraw_27n := hbK_19.nr hraw_14.lt hraw_14n
  have hraw_27 := hraw_14.kept (hbK_19.1 _ hraw_14.lt)
  obtain ⟨ret_28, rfl, hg_ret_28⟩ := hr_20
  have hsy_19 : s.heap.size ≤ ret_28 := Nat.le_trans hh_17.1.1 hr_20n.le
  refine lv_aload_n hx hb dX3_withHypothesis_24 rfl (lv_at hl 3 rfl) ?_
  have hsz_29 := hh_19.2.2.2.2.2.1
  have htt_29 := hh_19.2.2.2.2.2.2.1
  refine W.room (fun hrc_29 hrs_29 => ?_)
  refine va_callv (A0 := jA base) (H0 := s.heap) (va_runI (As := [.ref variables_4, .ref ret_15, .ref ret_28, .ref r3]) (rest := [.ref s.heap.size]) ⟨hx, hb, hml, hown, hts⟩ (uX3_initP l dC dI ca base B hB hAp hB5 hB101 hB280 hB313 hB315 G_19 H_19 s.heap.size variables_4 ret_15 ret_28 r3 nvariables_4 m_ret_8 m_ret_19 n3 (10 * (n0 / 10 + 1) + 4) LC LS) (cwI 4 hts (jgW (jWr_83 _ (List.mem_of_getElem? (i := 8) rfl))) rfl rfl rfl (htw (.initialized RX3) (jWr_82 _ (List.mem_of_getElem? (i := 10) rfl))) (htw (.methodLink RX3 25 yX3_init) (jWr_85 _ (List.mem_of_getElem? (i := 7) rfl))) (htw (.instanceMethod yX3_init) (jWr_83 _ (List.mem_of_getElem? (i := 7) rfl))) rfl (by decide +kernel) ⟨by rw [← hR]; exact Nat.le_of_ble_eq_true rfl, by rw [← hR]; exact Nat.le_of_ble_eq_true rfl⟩) ⟨fun a U g mk q => by obtain ⟨q0, q1, q2, qK, q10, q11, q12, q13, q14, q15, q16, q17, q18⟩ := q; exact ⟨q0, q1, q2, jG.calling g mk a qK, q10, q11, q12, q13, q14, q15, q16, q17, q18⟩, fun U hU hW => ⟨rfl, hU, hh_19.2.1, hG.step hW hU hh_19.1, hg_24, hg_23, hg_ret_28, hg_22, hraw_27, hraw_27n, hbr_1, jP.nil, (by omega), (by omega), by first | omega | (refine ⟨?_, ?_, ?_, ?_, ?_, ?_⟩ <;> (first | omega | rfl | assumption | decide | exact Or.inl rfl | exact Or.inr rfl | (simp only; omega)))⟩⟩ rfl rfl hl.1 rfl (lv_room (Nat.le_of_ble_eq_true rfl)) dX3_withHypothesis_25 ⟨by rw [hRc]; omega, by rw [hRs]; omega⟩) hh_19.1 (fun q _ h => h) (fun q h => h) (fun u_29 t_29 H_29 locs_29 ht_29 hvm_29 hr_30 hb_29 hz_29 hk_29 hS_29 => ?_)
  rw [ht_29] at hb_29
  obtain ⟨G_29, rfl⟩ : ∃ z, z = u_29 := ⟨_, rfl⟩
  try simp only at hb_29
  obtain ⟨⟨hb_291, hb_292, hb_293, hb_294, hb_295, hb_296⟩, hN_29, hgc_29, hbX_29⟩ := hb_29
  have hh_29 : jSt (dC, dI) B base G0 G_29 EX3_withHypothesisZ s.heap ((((0 + 1) + (1)) + (1)) + (0)) ((((0 + 4) + (m_ret_8)) + (m_ret_19)) + (0)) [(r0, 5, 2, .ref hypotheses_18), (r0, 5, 1, .ref names_7), (r0, 5, 0, .ref variables_4)] [] [] H_29 locs_29 := (hh_19.callG hb_291 hb_292 hb_293 hb_294 hb_295 hS_29 rfl (L1 := [(r0, 5, 2, .ref hypotheses_18), (r0, 5, 1, .ref names_7), (r0, 5, 0, .ref variables_4)]) [0, 1, 2] rfl rfl (M1 := []) [] rfl rfl (I1 := []) [] rfl rfl).more hb_296
  have hNn_29 : (jNk [0, 1, 2, 3, 4, 6, 7, 8, 9, 10, 11, 12, 13, 14, 15, 16, 17, 175]) G0 G_29 := (hNn_19).tr hN_29
  have hg_31 := hb_292 _ _ hg_21
  have hg_32 := hb_292 _ _ hg_22
  have hg_33 := hb_292 _ _ hg_25
  have hg_34 := hb_292 _ _ hg_26
  have hg_35 := hb_292 _ _ hg_24
  try simp only at hr_30
  have hsz_36 := hh_29.2.2.2.2.2.1
  have htt_36 := hh_29.2.2.2.2.2.2.1
  refine W.room (fun hrc_36 hrs_36 => ?_)
  refine W.widen (k := LC - s.heap.size) (n := LS - jTot s.heap) (by omega) (by omega) ?_
  rw [hQ]
  exact W.aret (v := .ref s.heap.size) hx hb hr (Or.inl ⟨_, rfl⟩) (Or.inr ⟨_, rfl⟩) (fun t ht hW => ⟨⟨.ref s.heap.size, ((10 * (n0 / 10 + 1) + 4), G_29), rfl, ⟨⟨_, rfl, hgc_29⟩, ⟨_, rfl, hsy_1⟩, by first | rfl | ((try dsimp only); first | omega | rfl | assumption | fail)⟩, ⟨hh_29.ra (by first | omega | (simp only; omega)) (by first | omega | (simp only; omega)) (M1 := []) [] rfl ht, hNn_29⟩⟩, by rw [ht]; try exact hh_29.1.1, fun q h9 hq => by rw [ht]; try exact hh_29.1.2.1 q h9 hq⟩) hh_29.1.2.2 dX3_withHypothesis_28
set_option maxHeartbeats 4000000 in
set_option maxRecDepth 20000 in
theorem uX3_fitsA (l : Launch) (dC : Nat → ClassId) (dI : Nat → Nat → Nat) (ca : Nat → ClassId) (base : Nat) (B : jF) (hB : jBok B) (hAp : jAp (dC, dI)) (hB5 : ∀ n G a H, B 5 n G a H ↔ jOb (dC, dI) 5 4 (F5 n G) a H) (hB101 : ∀ n G a H, B 101 n G a H ↔ jAr (dC, dI) (ca 1) (fun j z => True) n a H) (hB280 : ∀ n G a H, B 280 n G a H ↔ jAr (dC, dI) (ca 1) (fun j z => -1 ≤ z.toInt) n a H) (hB313 : ∀ n G a H, B 313 n G a H ↔ jAq (dC, dI) (ca 8) (jQk 280 80) n G a H) (G0 : jT) (H0 : Heap) (r0 : Nat) (n0 : Nat) (h4 : n0 % 10 ≠ 4) : Met l yX3_fits (jw yX3_fits cX3_fits 2 (some .boolean)) ({ frames := 0, cells := 0, slots := 0, locals := 0 }) (va_Pc [.ref r0] (fun U => U.heap = H0 ∧ jX B base G0 [] H0 ∧ jG dC dI ca base U ∧ jK5 dC dI ca U ∧ G0 r0 = some (5, n0) ∧ jP (dC, dI) G0 H0 [] ∧ (n0 % 10 ≠ 4 ∨ 10 ≤ n0))) (va_Qi (S := Unit) (fun r u => (r = 0 ∨ r = 1) ∧ (r.toInt = 1 → n0 % 10 = 1)) (fun u t => (jRt (dC, dI) B base G0 EX3_fitsA H0 [] t.heap) ∧ jKl [] H0 t.heap) (jA base)) 0 0 (jA base) := by
  refine Met.ofW (cc := cX3_fits) (maxL := 2) (ret := (some .boolean)) (by decide) rfl ?_
  intro p e s m args below meth c s₁ Bd hml hv
  obtain ⟨rfl, hH0, hX, hG, hK5, hg_r0, hP0, hp0⟩ := hv
  have hK := hG.1
  have hx := Bd.exec
  have hb := Bd.bytes
  have hr := Bd.returns
  have hts := atoms_spec (ws := (jw yX3_fits cX3_fits 2 (some .boolean))) Bd.pre
  have htw : ∀ w ∈ jWl, w.before _ s = true := fun w h => hts w (List.mem_cons_of_mem _ h)
  have hown : s.vm.findClass RX3 = some m.cls := findClass_of_methodNamed Bd.named
  have hlocks := Bd.notSynchronized
  obtain ⟨Q, hQ⟩ : ∃ Q, Q = MQ below (va_Qi (S := Unit) (fun r u => (r = 0 ∨ r = 1) ∧ (r.toInt = 1 → n0 % 10 = 1)) (fun u t => (jRt (dC, dI) B base G0 EX3_fitsA H0 [] t.heap) ∧ jKl [] H0 t.heap) (jA base)) ([.ref r0] : List Value).toArray s 0 0 (jA base) := ⟨_, rfl⟩
  rw [← hQ]
  have hl := lv_entry ([.ref r0]) (n := 2) (Nat.le_of_ble_eq_true rfl)
  rw [lg_entry_eq]
  generalize (lg_sl ([.ref r0]) ++ List.replicate (2 - (lg_sl ([.ref r0])).length) Slot.unset).toArray = ls at hl ⊢
  have hl : lv_has ls 2 [(0, .ref r0)] := hl
  generalize hR : (headSpec (jw yX3_fits cX3_fits 2 (some .boolean)) ({ frames := 0, cells := 0, slots := 0, locals := 0 })).room = R
  subst hH0
  have hh : jSt (dC, dI) B base G0 G0 EX3_fitsA s.heap 0 0 [] [] [] s.heap [] := jSt.start hX hP0 jMc.nil jIs.nil
  clear hX hP0
  have hk0 : (0 : Int32).toInt = 0 := by decide
  have hk1 : (1 : Int32).toInt = 1 := by decide
  have hk6 : (6 : Int32).toInt = 6 := by decide
  have hk8 : (8 : Int32).toInt = 8 := by decide
  have hly_5_0 := htw (u_lay RX3 TX3 0) (jWc_wsX30 _ (u_in_lay (by decide)))
  have hly_5_2 := htw (u_lay RX3 TX3 2) (jWc_wsX30 _ (u_in_lay (by decide)))
  have hly_5_3 := htw (u_lay RX3 TX3 3) (jWc_wsX30 _ (u_in_lay (by decide)))
  have hlk_18 := (htw (.fieldLink RX3 18 "ProofServer$Goal" "hypotheses" "[[I") (jWr_83 _ (List.mem_of_getElem? (i := 12) rfl)))
  have hlk_22 := (htw (.fieldLink RX3 22 "ProofServer$Goal" "formula" "[I") (jWr_83 _ (List.mem_of_getElem? (i := 13) rfl)))
  have hlk_9 := (htw (.fieldLink RX3 9 "ProofServer$Goal" "variables" "[I") (jWr_83 _ (List.mem_of_getElem? (i := 10) rfl)))
  have hfl : jKl [] s.heap s.heap := jKl.rf
  refine lv_aload_n hx hb dX3_fits_0 rfl (lv_at hl 0 rfl) ?_
  obtain ⟨v_1, hv_1, hh_2⟩ := hh.pin (C := RX3) (T := TX3) (N := 4) hB5 rfl (by decide) hg_r0 (i := 2) (by decide) rfl
  clear hh
  obtain ⟨hypotheses_3, khypotheses_3, rfl, hg_hypotheses_3, hhahypotheses_3, hhbhypotheses_3, hhchypotheses_3, hhdhypotheses_3, hhehypotheses_3⟩ := hv_1
  obtain rfl : khypotheses_3 = 313 := hhbhypotheses_3 (by omega)
  refine j7_read hx hb hown hK (C := RX3) (T := TX3) (N := 4) rfl hly_5_2 hlk_18 (hh_2.at 0 rfl) dX3_fits_1 ?_
  refine j7_qlen hx hb hK5.1 hh_2 hB313 0 rfl (by decide) hg_hypotheses_3 (by omega) dX3_fits_4 (fun z_4 hz_4 => ?_)
  refine lv_iconst (v := 1) hx hb dX3_fits_5 (by decide) ?_
  refine lv_isub hx hb dX3_fits_6 ?_
  refine lv_topi (fun z_5 ez_5 => ?_)
  have hz_5 : z_5.toInt = z_4.toInt - 1 := by rw [ez_5]; exact jb_isub2 (rfl) ((by decide)) (by omega)
  refine lv_istore_n (lv' := [(1, .int z_5), (0, .ref r0)]) hx hb dX3_fits_7 rfl hl (by decide) rfl (fun ls hl => ?_)
  refine lv_aload_n hx hb dX3_fits_8 rfl (lv_at hl 1 rfl) ?_
  obtain ⟨v_6, hv_6, hh_7⟩ := hh_2.pin (C := RX3) (T := TX3) (N := 4) hB5 rfl (by decide) hg_r0 (i := 3) (by decide) rfl
  clear hh_2
  rcases hv_6 with ⟨rfl, hcv_6⟩ | ⟨formula_8, nformula_8, rfl, hg_formula_8, hn_formula_8, hcv_6, hdv_6⟩
  · refine j7_read hx hb hown hK (C := RX3) (T := TX3) (N := 4) rfl hly_5_3 hlk_22 (hh_7.at 0 rfl) dX3_fits_9 ?_
    refine lv_ifnullN (tgt := 52) hx hb dX3_fits_12 (by decide) ?_
    refine lv_iconst (v := 0) hx hb dX3_fits_52 (by decide) ?_
    rw [hQ]
    exact W.zret (v := 0) hx hb hr (jb_nz (Or.inl rfl)) (fun t ht hW => ⟨⟨0, (), rfl, ⟨(Or.inl rfl), by intro h9; omega⟩, ⟨hh_7.rt (M1 := []) [] rfl ht, by rw [ht]; exact hfl⟩⟩, by rw [ht]; try exact hh_7.1.1, fun q h9 hq => by rw [ht]; try exact hh_7.1.2.1 q h9 hq⟩) hh_7.1.2.2 dX3_fits_53
  · refine j7_read hx hb hown hK (C := RX3) (T := TX3) (N := 4) rfl hly_5_3 hlk_22 (hh_7.at 0 rfl) dX3_fits_9 ?_
    refine lv_ifnull hx hb dX3_fits_12 ?_
    refine lv_aload_n hx hb dX3_fits_15 rfl (lv_at hl 1 rfl) ?_
    obtain ⟨v_9, hv_9, hh_10⟩ := hh_7.pin (C := RX3) (T := TX3) (N := 4) hB5 rfl (by decide) hg_r0 (i := 0) (by decide) rfl
    clear hh_7
    obtain ⟨variables_11, nvariables_11, rfl, hg_variables_11, hvavariables_11, hvbvariables_11, hvcvariables_11⟩ := hv_9
    refine j7_read hx hb hown hK (C := RX3) (T := TX3) (N := 4) rfl hly_5_0 hlk_9 (hh_10.at 0 rfl) dX3_fits_16 ?_
    refine j7_len hx hb hK hh_10 hB101 1 rfl (by decide) hg_variables_11 (by omega) dX3_fits_19 (fun z_12 hz_12 => ?_)
    refine lv_bipush (v := 6) hx hb dX3_fits_20 (by decide) ?_
    refine lv_icmp_gt (tgt := 52) hx hb dX3_fits_22 (by decide) (fun c_13 => ?_) (fun c_13 => ?_)
    · skip
      have c_13' : z_12.toInt > 6 := jb_gt (rfl) ((by decide)) c_13
      refine lv_iconst (v := 0) hx hb dX3_fits_52 (by decide) ?_
      rw [hQ]
      exact W.zret (v := 0) hx hb hr (jb_nz (Or.inl rfl)) (fun t ht hW => ⟨⟨0, (), rfl, ⟨(Or.inl rfl), by intro h9; omega⟩, ⟨hh_10.rt (M1 := []) [] rfl ht, by rw [ht]; exact hfl⟩⟩, by rw [ht]; try exact hh_10.1.1, fun q h9 hq => by rw [ht]; try exact hh_10.1.2.1 q h9 hq⟩) hh_10.1.2.2 dX3_fits_53
    · skip
      have c_13' : z_12.toInt ≤ 6 := jb_gt_n (rfl) ((by decide)) c_13
      refine lv_aload_n hx hb dX3_fits_25 rfl (lv_at hl 1 rfl) ?_
      refine j7_read hx hb hown hK (C := RX3) (T := TX3) (N := 4) rfl hly_5_2 hlk_18 (hh_10.at 2 rfl) dX3_fits_26 ?_
      refine j7_qlen hx hb hK5.1 hh_10 hB313 0 rfl (by decide) hg_hypotheses_3 (by omega) dX3_fits_29 (fun z_14 hz_14 => ?_)
      refine lv_bipush (v := 8) hx hb dX3_fits_30 (by decide) ?_
      refine lv_icmp_gt (tgt := 52) hx hb dX3_fits_32 (by decide) (fun c_15 => ?_) (fun c_15 => ?_)
      · skip
        have c_15' : z_14.toInt > 8 := jb_gt (rfl) ((by decide)) c_15
        refine lv_iconst (v := 0) hx hb dX3_fits_52 (by decide) ?_
        rw [hQ]
        exact W.zret (v := 0) hx hb hr (jb_nz (Or.inl rfl)) (fun t ht hW => ⟨⟨0, (), rfl, ⟨(Or.inl rfl), by intro h9; omega⟩, ⟨hh_10.rt (M1 := []) [] rfl ht, by rw [ht]; exact hfl⟩⟩, by rw [ht]; try exact hh_10.1.1, fun q h9 hq => by rw [ht]; try exact hh_10.1.2.1 q h9 hq⟩) hh_10.1.2.2 dX3_fits_53
      · skip
        have c_15' : z_14.toInt ≤ 8 := jb_gt_n (rfl) ((by decide)) c_15
        refine lv_iload_n hx hb dX3_fits_35 rfl (lv_at hl 0 rfl) ?_
        refine lv_if_lt (tgt := 48) hx hb dX3_fits_36 (by decide) (fun c_16 => ?_) (fun c_16 => ?_)
        · skip
          have c_16' : z_5.toInt < 0 := jb_lt (rfl) ((by decide)) c_16
          refine lv_iconst (v := 1) hx hb dX3_fits_48 (by decide) ?_
          refine lv_goto (tgt := 53) hx hb dX3_fits_49 (by decide) ?_
          rw [hQ]
          exact W.zret (v := 1) hx hb hr (jb_nz (Or.inr rfl)) (fun t ht hW => ⟨⟨1, (), rfl, ⟨(Or.inr rfl), by intro h9; omega⟩, ⟨hh_10.rt (M1 := []) [] rfl ht, by rw [ht]; exact hfl⟩⟩, by rw [ht]; try exact hh_10.1.1, fun q h9 hq => by rw [ht]; try exact hh_10.1.2.1 q h9 hq⟩) hh_10.1.2.2 dX3_fits_53
        · skip
          have c_16' : z_5.toInt ≥ 0 := jb_lt_n (rfl) ((by decide)) c_16
          refine lv_aload_n hx hb dX3_fits_39 rfl (lv_at hl 1 rfl) ?_
          refine j7_read hx hb hown hK (C := RX3) (T := TX3) (N := 4) rfl hly_5_2 hlk_18 (hh_10.at 2 rfl) dX3_fits_40 ?_
          refine lv_iload_n hx hb dX3_fits_43 rfl (lv_at hl 0 rfl) ?_
          refine j7_qaldA hx hb hK5 hh_10 hB313 (by decide) hg_hypotheses_3 (x := z_5.toInt) (rfl) (by omega) dX3_fits_44 (fun o_17 ho_17 => ?_)
          obtain ⟨el_18, nel_18, rfl, hg_el_18, hn_el_18⟩ := ho_17
          simp only [va_rf]
          refine lv_ifnull hx hb dX3_fits_45 ?_
          refine lv_iconst (v := 1) hx hb dX3_fits_48 (by decide) ?_
          refine lv_goto (tgt := 53) hx hb dX3_fits_49 (by decide) ?_
          rw [hQ]
          exact W.zret (v := 1) hx hb hr (jb_nz (Or.inr rfl)) (fun t ht hW => ⟨⟨1, (), rfl, ⟨(Or.inr rfl), by intro h9; omega⟩, ⟨hh_10.rt (M1 := []) [] rfl ht, by rw [ht]; exact hfl⟩⟩, by rw [ht]; try exact hh_10.1.1, fun q h9 hq => by rw [ht]; try exact hh_10.1.2.1 q h9 hq⟩) hh_10.1.2.2 dX3_fits_53
set_option maxHeartbeats 4000000 in
set_option maxRecDepth 20000 in
theorem uX3_fitsL (l : Launch) (dC : Nat → ClassId) (dI : Nat → Nat → Nat) (ca : Nat → ClassId) (base : Nat) (B : jF) (hB : jBok B) (hAp : jAp (dC, dI)) (hB5 : ∀ n G a H, B 5 n G a H ↔ jOb (dC, dI) 5 4 (F5 n G) a H) (hB101 : ∀ n G a H, B 101 n G a H ↔ jAr (dC, dI) (ca 1) (fun j z => True) n a H) (hB280 : ∀ n G a H, B 280 n G a H ↔ jAr (dC, dI) (ca 1) (fun j z => -1 ≤ z.toInt) n a H) (hB313 : ∀ n G a H, B 313 n G a H ↔ jAq (dC, dI) (ca 8) (jQk 280 80) n G a H) (hB315 : ∀ n G a H, B 315 n G a H ↔ jAqZ (dC, dI) (ca 8) n a H) (G0 : jT) (H0 : Heap) (r0 : Nat) (n0 : Nat) (h4 : n0 % 10 = 4) : Met l yX3_fits (jw yX3_fits cX3_fits 2 (some .boolean)) ({ frames := 0, cells := 0, slots := 0, locals := 0 }) (va_Pc [.ref r0] (fun U => U.heap = H0 ∧ jX B base G0 [] H0 ∧ jG dC dI ca base U ∧ jK5 dC dI ca U ∧ G0 r0 = some (5, n0) ∧ jP (dC, dI) G0 H0 [] ∧ (n0 % 10 ≠ 4 ∨ 10 ≤ n0))) (va_Qi (S := Unit) (fun r u => (r = 0 ∨ r = 1) ∧ (r.toInt = 1 → n0 % 10 = 1)) (fun u t => (jRt (dC, dI) B base G0 EX3_fitsL H0 [] t.heap) ∧ jKl [] H0 t.heap) (jA base)) 0 0 (jA base) := by
  refine Met.ofW (cc := cX3_fits) (maxL := 2) (ret := (some .boolean)) (by decide) rfl ?_
  intro p e s m args below meth c s₁ Bd hml hv
  obtain ⟨rfl, hH0, hX, hG, hK5, hg_r0, hP0, hp0⟩ := hv
  have hK := hG.1
  have hx := Bd.exec
  have hb := Bd.bytes
  have hr := Bd.returns
  have hts := atoms_spec (ws := (jw yX3_fits cX3_fits 2 (some .boolean))) Bd.pre
  have htw : ∀ w ∈ jWl, w.before _ s = true := fun w h => hts w (List.mem_cons_of_mem _ h)
  have hown : s.vm.findClass RX3 = some m.cls := findClass_of_methodNamed Bd.named
  have hlocks := Bd.notSynchronized
  obtain ⟨Q, hQ⟩ : ∃ Q, Q = MQ below (va_Qi (S := Unit) (fun r u => (r = 0 ∨ r = 1) ∧ (r.toInt = 1 → n0 % 10 = 1)) (fun u t => (jRt (dC, dI) B base G0 EX3_fitsL H0 [] t.heap) ∧ jKl [] H0 t.heap) (jA base)) ([.ref r0] : List Value).toArray s 0 0 (jA base) := ⟨_, rfl⟩
  rw [← hQ]
  have hl := lv_entry ([.ref r0]) (n := 2) (Nat.le_of_ble_eq_true rfl)
  rw [lg_entry_eq]
  generalize (lg_sl ([.ref r0]) ++ List.replicate (2 - (lg_sl ([.ref r0])).length) Slot.unset).toArray = ls at hl ⊢
  have hl : lv_has ls 2 [(0, .ref r0)] := hl
  generalize hR : (headSpec (jw yX3_fits cX3_fits 2 (some .boolean)) ({ frames := 0, cells := 0, slots := 0, locals := 0 })).room = R
  subst hH0
  have hh : jSt (dC, dI) B base G0 G0 EX3_fitsL s.heap 0 0 [] [] [] s.heap [] := jSt.start hX hP0 jMc.nil jIs.nil
  clear hX hP0
  have hk0 : (0 : Int32).toInt = 0 := by decide
  have hk1 : (1 : Int32).toInt = 1 := by decide
  have hk6 : (6 : Int32).toInt = 6 := by decide
  have hk8 : (8 : Int32).toInt = 8 := by decide
  have hly_5_0 := htw (u_lay RX3 TX3 0) (jWc_wsX30 _ (u_in_lay (by decide)))
  have hly_5_2 := htw (u_lay RX3 TX3 2) (jWc_wsX30 _ (u_in_lay (by decide)))
  have hly_5_3 := htw (u_lay RX3 TX3 3) (jWc_wsX30 _ (u_in_lay (by decide)))
  have hlk_18 := (htw (.fieldLink RX3 18 "ProofServer$Goal" "hypotheses" "[[I") (jWr_83 _ (List.mem_of_getElem? (i := 12) rfl)))
  have hlk_22 := (htw (.fieldLink RX3 22 "ProofServer$Goal" "formula" "[I") (jWr_83 _ (List.mem_of_getElem? (i := 13) rfl)))
  have hlk_9 := (htw (.fieldLink RX3 9 "ProofServer$Goal" "variables" "[I") (jWr_83 _ (List.mem_of_getElem? (i := 10) rfl)))
  have hfl : jKl [] s.heap s.heap := jKl.rf
  refine lv_aload_n hx hb dX3_fits_0 rfl (lv_at hl 0 rfl) ?_
  obtain ⟨v_1, hv_1, hh_2⟩ := hh.pin (C := RX3) (T := TX3) (N := 4) hB5 rfl (by decide) hg_r0 (i := 2) (by decide) rfl
  clear hh
  obtain ⟨hypotheses_3, khypotheses_3, rfl, hg_hypotheses_3, hhahypotheses_3, hhbhypotheses_3, hhchypotheses_3, hhdhypotheses_3, hhehypotheses_3⟩ := hv_1
  obtain rfl : khypotheses_3 = 315 := hhchypotheses_3 (by omega)
  refine j7_read hx hb hown hK (C := RX3) (T := TX3) (N := 4) rfl hly_5_2 hlk_18 (hh_2.at 0 rfl) dX3_fits_1 ?_
  refine j7_qlenZ hx hb hK5.1 hh_2 hB315 0 rfl (by decide) hg_hypotheses_3 (by omega) dX3_fits_4 (fun z_4 hz_4 => ?_)
  refine lv_iconst (v := 1) hx hb dX3_fits_5 (by decide) ?_
  refine lv_isub hx hb dX3_fits_6 ?_
  refine lv_topi (fun z_5 ez_5 => ?_)
  have hz_5 : z_5.toInt = z_4.toInt - 1 := by rw [ez_5]; exact jb_isub2 (rfl) ((by decide)) (by omega)
  refine lv_istore_n (lv' := [(1, .int z_5), (0, .ref r0)]) hx hb dX3_fits_7 rfl hl (by decide) rfl (fun ls hl => ?_)
  refine lv_aload_n hx hb dX3_fits_8 rfl (lv_at hl 1 rfl) ?_
  obtain ⟨v_6, hv_6, hh_7⟩ := hh_2.pin (C := RX3) (T := TX3) (N := 4) hB5 rfl (by decide) hg_r0 (i := 3) (by decide) rfl
  clear hh_2
  rcases hv_6 with ⟨rfl, hcv_6⟩ | ⟨formula_8, nformula_8, rfl, hg_formula_8, hn_formula_8, hcv_6, hdv_6⟩
  · refine j7_read hx hb hown hK (C := RX3) (T := TX3) (N := 4) rfl hly_5_3 hlk_22 (hh_7.at 0 rfl) dX3_fits_9 ?_
    refine lv_ifnullN (tgt := 52) hx hb dX3_fits_12 (by decide) ?_
    refine lv_iconst (v := 0) hx hb dX3_fits_52 (by decide) ?_
    rw [hQ]
    exact W.zret (v := 0) hx hb hr (jb_nz (Or.inl rfl)) (fun t ht hW => ⟨⟨0, (), rfl, ⟨(Or.inl rfl), by intro h9; omega⟩, ⟨hh_7.rt (M1 := []) [] rfl ht, by rw [ht]; exact hfl⟩⟩, by rw [ht]; try exact hh_7.1.1, fun q h9 hq => by rw [ht]; try exact hh_7.1.2.1 q h9 hq⟩) hh_7.1.2.2 dX3_fits_53
  · refine j7_read hx hb hown hK (C := RX3) (T := TX3) (N := 4) rfl hly_5_3 hlk_22 (hh_7.at 0 rfl) dX3_fits_9 ?_
    refine lv_ifnull hx hb dX3_fits_12 ?_
    refine lv_aload_n hx hb dX3_fits_15 rfl (lv_at hl 1 rfl) ?_
    obtain ⟨v_9, hv_9, hh_10⟩ := hh_7.pin (C := RX3) (T := TX3) (N := 4) hB5 rfl (by decide) hg_r0 (i := 0) (by decide) rfl
    clear hh_7
    obtain ⟨variables_11, nvariables_11, rfl, hg_variables_11, hvavariables_11, hvbvariables_11, hvcvariables_11⟩ := hv_9
    refine j7_read hx hb hown hK (C := RX3) (T := TX3) (N := 4) rfl hly_5_0 hlk_9 (hh_10.at 0 rfl) dX3_fits_16 ?_
    refine j7_len hx hb hK hh_10 hB101 1 rfl (by decide) hg_variables_11 (by omega) dX3_fits_19 (fun z_12 hz_12 => ?_)
    refine lv_bipush (v := 6) hx hb dX3_fits_20 (by decide) ?_
    refine lv_icmp_gt (tgt := 52) hx hb dX3_fits_22 (by decide) (fun c_13 => ?_) (fun c_13 => ?_)
    · skip
      have c_13' : z_12.toInt > 6 := jb_gt (rfl) ((by decide)) c_13
      refine lv_iconst (v := 0) hx hb dX3_fits_52 (by decide) ?_
      rw [hQ]
      exact W.zret (v := 0) hx hb hr (jb_nz (Or.inl rfl)) (fun t ht hW => ⟨⟨0, (), rfl, ⟨(Or.inl rfl), by intro h9; omega⟩, ⟨hh_10.rt (M1 := []) [] rfl ht, by rw [ht]; exact hfl⟩⟩, by rw [ht]; try exact hh_10.1.1, fun q h9 hq => by rw [ht]; try exact hh_10.1.2.1 q h9 hq⟩) hh_10.1.2.2 dX3_fits_53
    · skip
      have c_13' : z_12.toInt ≤ 6 := jb_gt_n (rfl) ((by decide)) c_13
      refine lv_aload_n hx hb dX3_fits_25 rfl (lv_at hl 1 rfl) ?_
      refine j7_read hx hb hown hK (C := RX3) (T := TX3) (N := 4) rfl hly_5_2 hlk_18 (hh_10.at 2 rfl) dX3_fits_26 ?_
      refine j7_qlenZ hx hb hK5.1 hh_10 hB315 0 rfl (by decide) hg_hypotheses_3 (by omega) dX3_fits_29 (fun z_14 hz_14 => ?_)
      refine lv_bipush (v := 8) hx hb dX3_fits_30 (by decide) ?_
      refine lv_icmp_gt (tgt := 52) hx hb dX3_fits_32 (by decide) (fun c_15 => ?_) (fun c_15 => ?_)
      · skip
        have c_15' : z_14.toInt > 8 := jb_gt (rfl) ((by decide)) c_15
        refine lv_iconst (v := 0) hx hb dX3_fits_52 (by decide) ?_
        rw [hQ]
        exact W.zret (v := 0) hx hb hr (jb_nz (Or.inl rfl)) (fun t ht hW => ⟨⟨0, (), rfl, ⟨(Or.inl rfl), by intro h9; omega⟩, ⟨hh_10.rt (M1 := []) [] rfl ht, by rw [ht]; exact hfl⟩⟩, by rw [ht]; try exact hh_10.1.1, fun q h9 hq => by rw [ht]; try exact hh_10.1.2.1 q h9 hq⟩) hh_10.1.2.2 dX3_fits_53
      · skip
        have c_15' : z_14.toInt ≤ 8 := jb_gt_n (rfl) ((by decide)) c_15
        refine lv_iload_n hx hb dX3_fits_35 rfl (lv_at hl 0 rfl) ?_
        refine lv_if_lt (tgt := 48) hx hb dX3_fits_36 (by decide) (fun c_16 => ?_) (fun c_16 => ?_)
        · skip
          have c_16' : z_5.toInt < 0 := jb_lt (rfl) ((by decide)) c_16
          refine lv_iconst (v := 1) hx hb dX3_fits_48 (by decide) ?_
          refine lv_goto (tgt := 53) hx hb dX3_fits_49 (by decide) ?_
          rw [hQ]
          exact W.zret (v := 1) hx hb hr (jb_nz (Or.inr rfl)) (fun t ht hW => ⟨⟨1, (), rfl, ⟨(Or.inr rfl), by intro h9; omega⟩, ⟨hh_10.rt (M1 := []) [] rfl ht, by rw [ht]; exact hfl⟩⟩, by rw [ht]; try exact hh_10.1.1, fun q h9 hq => by rw [ht]; try exact hh_10.1.2.1 q h9 hq⟩) hh_10.1.2.2 dX3_fits_53
        · skip
          have c_16' : z_5.toInt ≥ 0 := jb_lt_n (rfl) ((by decide)) c_16
          refine lv_aload_n hx hb dX3_fits_39 rfl (lv_at hl 1 rfl) ?_
          refine j7_read hx hb hown hK (C := RX3) (T := TX3) (N := 4) rfl hly_5_2 hlk_18 (hh_10.at 2 rfl) dX3_fits_40 ?_
          refine lv_iload_n hx hb dX3_fits_43 rfl (lv_at hl 0 rfl) ?_
          refine j7_qaldZ hx hb hK5 hh_10 hB315 (by decide) hg_hypotheses_3 (x := z_5.toInt) (rfl) (by omega) (by omega) dX3_fits_44 ?_
          refine lv_ifnullN (tgt := 52) hx hb dX3_fits_45 (by decide) ?_
          refine lv_iconst (v := 0) hx hb dX3_fits_52 (by decide) ?_
          rw [hQ]
          exact W.zret (v := 0) hx hb hr (jb_nz (Or.inl rfl)) (fun t ht hW => ⟨⟨0, (), rfl, ⟨(Or.inl rfl), by intro h9; omega⟩, ⟨hh_10.rt (M1 := []) [] rfl ht, by rw [ht]; exact hfl⟩⟩, by rw [ht]; try exact hh_10.1.1, fun q h9 hq => by rw [ht]; try exact hh_10.1.2.1 q h9 hq⟩) hh_10.1.2.2 dX3_fits_53
set_option maxHeartbeats 4000000 in
set_option maxRecDepth 20000 in
theorem uX3_fits (l : Launch) (dC : Nat → ClassId) (dI : Nat → Nat → Nat) (ca : Nat → ClassId) (base : Nat) (B : jF) (hB : jBok B) (hAp : jAp (dC, dI)) (hB5 : ∀ n G a H, B 5 n G a H ↔ jOb (dC, dI) 5 4 (F5 n G) a H) (hB101 : ∀ n G a H, B 101 n G a H ↔ jAr (dC, dI) (ca 1) (fun j z => True) n a H) (hB280 : ∀ n G a H, B 280 n G a H ↔ jAr (dC, dI) (ca 1) (fun j z => -1 ≤ z.toInt) n a H) (hB313 : ∀ n G a H, B 313 n G a H ↔ jAq (dC, dI) (ca 8) (jQk 280 80) n G a H) (hB315 : ∀ n G a H, B 315 n G a H ↔ jAqZ (dC, dI) (ca 8) n a H) (G0 : jT) (H0 : Heap) (r0 : Nat) (n0 : Nat) : Met l yX3_fits (jw yX3_fits cX3_fits 2 (some .boolean)) ({ frames := 0, cells := 0, slots := 0, locals := 0 }) (va_Pc [.ref r0] (fun U => U.heap = H0 ∧ jX B base G0 [] H0 ∧ jG dC dI ca base U ∧ jK5 dC dI ca U ∧ G0 r0 = some (5, n0) ∧ jP (dC, dI) G0 H0 [] ∧ (n0 % 10 ≠ 4 ∨ 10 ≤ n0))) (va_Qi (S := Unit) (fun r u => (r = 0 ∨ r = 1) ∧ (r.toInt = 1 → n0 % 10 = 1)) (fun u t => (jRt (dC, dI) B base G0 EX3_fits H0 [] t.heap) ∧ jKl [] H0 t.heap) (jA base)) 0 0 (jA base) := by
  by_cases h4 : n0 % 10 = 4
  · exact uX3_fitsL l dC dI ca base B hB hAp hB5 hB101 hB280 hB313 hB315 G0 H0 r0 n0 h4
  · exact uX3_fitsA l dC dI ca base B hB hAp hB5 hB101 hB280 hB313 G0 H0 r0 n0 h4
set_option maxHeartbeats 4000000 in
set_option maxRecDepth 20000 in
theorem uX5_add (l : Launch) (dC : Nat → ClassId) (dI : Nat → Nat → Nat) (ca : Nat → ClassId) (base : Nat) (B : jF) (hB : jBok B) (hAp : jAp (dC, dI)) (hB5 : ∀ n G a H, B 5 n G a H ↔ jOb (dC, dI) 5 4 (F5 n G) a H) (hB7 : ∀ n G a H, B 7 n G a H ↔ jOb (dC, dI) 7 11 (F7 n G) a H) (hB211 : ∀ n G a H, B 211 n G a H ↔ jAq (dC, dI) (ca 7) (jQh) n G a H) (G0 : jT) (H0 : Heap) (r0 : Nat) (r1 : Nat) (n1 : Nat) (pf : Int32) : Met l yX5_add (jw yX5_add cX5_add 2 (some .int)) ({ frames := 0, cells := 0, slots := 0, locals := 0 }) (va_Pc [.ref r0, .ref r1] (fun U => U.heap = H0 ∧ jX B base G0 [] H0 ∧ jG dC dI ca base U ∧ jK2 dC dI ca U ∧ G0 r0 = some (7, 0) ∧ G0 r1 = some (5, n1) ∧ jP (dC, dI) G0 H0 [(r0, 7, 10, .int pf)] ∧ jIs (dC, dI) G0 H0 [(jFg, jFr dC dI ca G0 r0)] ∧ 0 ≤ pf.toInt ∧ pf.toInt ≤ 1000 ∧ (n1 % 10 ≠ 4 ∨ 10 ≤ n1))) (va_Qi (S := Int32) (fun r u => (u.toInt = pf.toInt + 1 ∧ r.toInt = 0)) (fun u t => (jRt (dC, dI) B base G0 EX5_add H0 [(r0, 7, 10, .int u)] t.heap) ∧ jIs (dC, dI) G0 t.heap [(jFg, jFr dC dI ca G0 r0)]) (jA base)) 0 0 (jA base) := by
  refine Met.ofW (cc := cX5_add) (maxL := 2) (ret := (some .int)) (by decide) rfl ?_
  intro p e s m args below meth c s₁ Bd hml hv
  obtain ⟨rfl, hH0, hX, hG, hK2, hg_r0, hg_r1, hP0, hI0, hp0, hp1, hp2⟩ := hv
  have hK := hG.1
  have hx := Bd.exec
  have hb := Bd.bytes
  have hr := Bd.returns
  have hts := atoms_spec (ws := (jw yX5_add cX5_add 2 (some .int))) Bd.pre
  have htw : ∀ w ∈ jWl, w.before _ s = true := fun w h => hts w (List.mem_cons_of_mem _ h)
  have hown : s.vm.findClass RX5 = some m.cls := findClass_of_methodNamed Bd.named
  have hlocks := Bd.notSynchronized
  obtain ⟨Q, hQ⟩ : ∃ Q, Q = MQ below (va_Qi (S := Int32) (fun r u => (u.toInt = pf.toInt + 1 ∧ r.toInt = 0)) (fun u t => (jRt (dC, dI) B base G0 EX5_add H0 [(r0, 7, 10, .int u)] t.heap) ∧ jIs (dC, dI) G0 t.heap [(jFg, jFr dC dI ca G0 r0)]) (jA base)) ([.ref r0, .ref r1] : List Value).toArray s 0 0 (jA base) := ⟨_, rfl⟩
  rw [← hQ]
  have hl := lv_entry ([.ref r0, .ref r1]) (n := 2) (Nat.le_of_ble_eq_true rfl)
  rw [lg_entry_eq]
  generalize (lg_sl ([.ref r0, .ref r1]) ++ List.replicate (2 - (lg_sl ([.ref r0, .ref r1])).length) Slot.unset).toArray = ls at hl ⊢
  have hl : lv_has ls 2 [(0, .ref r0), (1, .ref r1)] := hl
  generalize hR : (headSpec (jw yX5_add cX5_add 2 (some .int)) ({ frames := 0, cells := 0, slots := 0, locals := 0 })).room = R
  subst hH0
  have hh : jSt (dC, dI) B base G0 G0 EX5_add s.heap 0 0 [(r0, 7, 10, .int pf)] [] [(jFg, jFr dC dI ca G0 r0)] s.heap [] := jSt.start hX hP0 jMc.nil hI0
  clear hX hP0
  have hk0 : (0 : Int32).toInt = 0 := by decide
  have hk1 : (1 : Int32).toInt = 1 := by decide
  have hk6 : (6 : Int32).toInt = 6 := by decide
  have hly_7_9 := htw (u_lay RX5 TX5 9) (jWc_wsX50 _ (u_in_lay (by decide)))
  have hly_7_10 := htw (u_lay RX5 TX5 10) (jWc_wsX50 _ (u_in_lay (by decide)))
  have hlk_150 := (htw (.fieldLink RX5 150 "ProofServer$Kernel" "freshCount" "I") (jWr_84 _ (List.mem_of_getElem? (i := 2) rfl)))
  have hlk_55 := (htw (.fieldLink RX5 55 "ProofServer$Kernel" "fresh" "[LProofServer$Goal;") (jWr_5 _ (List.mem_of_getElem? (i := 3) rfl)))
  obtain ⟨fc_1, fb_1, fq_1, hf1_1, hg_fb_1, hf3_1, hf4_1, hf5_1, hf6_1⟩ := hh.iv 0 rfl
  obtain rfl : pf = fc_1 := Value.int.inj (jf.uniq (hh.at 0 rfl) hf3_1)
  have hh_2 := hh.sub (L1 := [(r0, 7, 10, .int pf)]) [0] rfl (M1 := []) [] rfl (I1 := []) [] rfl
  clear hh
  have hh_3 := hh_2.more (P1 := [(r0, 7, 9, .ref fb_1)]) (jP.cons hg_r0 hf4_1 jP.nil)
  clear hh_2 hf4_1
  have hh_4 := hh_3.addI (jQc.ie hf5_1 hg_fb_1 (by decide) (by decide))
  clear hh_3
  refine lv_aload_n hx hb dX5_add_0 rfl (lv_at hl 0 rfl) ?_
  refine j7_read hx hb hown hK (C := RX5) (T := TX5) (N := 11) rfl hly_7_10 hlk_150 (hh_4.at 1 rfl) dX5_add_1 ?_
  refine lv_bipush (v := 6) hx hb dX5_add_4 (by decide) ?_
  refine lv_icmp_ge (tgt := 19) hx hb dX5_add_6 (by decide) (fun c_5 => ?_) (fun c_5 => ?_)
  · skip
    have c_5' : pf.toInt ≥ 6 := jb_ge (rfl) ((by decide)) c_5
    refine lv_aload_n hx hb dX5_add_19 rfl (lv_at hl 0 rfl) ?_
    refine lv_dup hx hb dX5_add_20 rfl ?_
    refine j7_read hx hb hown hK (C := RX5) (T := TX5) (N := 11) rfl hly_7_10 hlk_150 (hh_4.at 1 rfl) dX5_add_21 ?_
    refine lv_iconst (v := 1) hx hb dX5_add_24 (by decide) ?_
    refine lv_iadd hx hb dX5_add_25 ?_
    refine lv_topi (fun z_6 ez_6 => ?_)
    have hz_6 : z_6.toInt = pf.toInt + 1 := by rw [ez_6]; exact jb_iadd2 (rfl) ((by decide)) (by omega)
    refine j7_put hx hb hown hK hh_4 hB hAp hB7 (C := RX5) (T := TX5) (N := 11) rfl (by decide) hg_r0 (i := 10) (by decide) hly_7_10 rfl hlk_150 rfl (ty := .int) (v := .int z_6) (by decide +kernel) rfl rfl (⟨_, rfl, by omega, by omega⟩) rfl (L1 := [(r0, 7, 9, .ref fb_1)]) [0] rfl rfl rfl dX5_add_26 (fun H_7 locs_7 hh_7 => ?_)
    clear hh_4
    have hd_8 : jFr dC dI ca G0 r0 H_7 := ⟨_, _, _, hg_r0, hg_fb_1, hh_7.at 0 rfl, hh_7.at 1 rfl, hh_7.iv 0 rfl, (fun i h6 hi => by first | exact jFrc.put hf6_1 (by omega) (by omega) (by omega) (zz_none) (zz_none) i h6 hi | exact jFrc.full hf6_1 (by omega) i h6 hi)⟩
    have hh_9 := hh_7.sub (L1 := [(r0, 7, 10, .int z_6), (r0, 7, 9, .ref fb_1)]) [0, 1] rfl (M1 := []) [] rfl (I1 := []) [] rfl
    clear hh_7
    have hh_10 := hh_9.addI (jFr.ie hd_8)
    clear hh_9
    refine lv_iconst (v := 0) hx hb dX5_add_29 (by decide) ?_
    rw [hQ]
    exact W.iret (v := 0) hx hb hr (fun t ht hW => ⟨⟨0, z_6, rfl, by first | omega | (refine ⟨?_, ?_⟩ <;> (first | omega | rfl | assumption | decide | exact Or.inl rfl | exact Or.inr rfl | (simp only; omega))), ⟨hh_10.rt (M1 := [(r0, 7, 10, .int z_6)]) [0] rfl ht, by rw [ht]; exact hh_10.2.2.2.2.2.2.2.2.sub (L1 := [(jFg, jFr dC dI ca G0 r0)]) [0] rfl⟩⟩, by rw [ht]; try exact hh_10.1.1, fun q h9 hq => by rw [ht]; try exact hh_10.1.2.1 q h9 hq⟩) hh_10.1.2.2 dX5_add_30
  · skip
    have c_5' : pf.toInt < 6 := jb_ge_n (rfl) ((by decide)) c_5
    refine lv_aload_n hx hb dX5_add_9 rfl (lv_at hl 0 rfl) ?_
    refine j7_read hx hb hown hK (C := RX5) (T := TX5) (N := 11) rfl hly_7_9 hlk_55 (hh_4.at 0 rfl) dX5_add_10 ?_
    refine lv_aload_n hx hb dX5_add_13 rfl (lv_at hl 0 rfl) ?_
    refine j7_read hx hb hown hK (C := RX5) (T := TX5) (N := 11) rfl hly_7_10 hlk_150 (hh_4.at 1 rfl) dX5_add_14 ?_
    refine lv_aload_n hx hb dX5_add_17 rfl (lv_at hl 1 rfl) ?_
    have hd_12 := hh_4.iv 0 rfl
    have hh_14 := hh_4.sub (L1 := [(r0, 7, 9, .ref fb_1), (r0, 7, 10, .int pf)]) [0, 1] rfl (M1 := []) [] rfl (I1 := []) [] rfl
    clear hh_4
    refine j7_qastI hx hb hK2 hh_14 hB hB211 3 rfl (by decide) (by decide) rfl rfl rfl hg_fb_1 (x := pf.toInt) (rfl) (by omega) hB5 (T := TX3) (N := 4) rfl (by decide) hg_r1 (Or.inr ⟨_, _, rfl, hg_r1, by omega⟩) hd_12 dX5_add_18 (fun H_11 locs_11 fq_13 hv_11 ho_11 hq_11 hh_11 => ?_)
    clear hh_14
    have hh_15 := hh_11.addI (hq_11.ie hg_fb_1 (by decide) (by decide))
    clear hh_11
    clear hd_12
    refine lv_aload_n hx hb dX5_add_19 rfl (lv_at hl 0 rfl) ?_
    refine lv_dup hx hb dX5_add_20 rfl ?_
    refine j7_read hx hb hown hK (C := RX5) (T := TX5) (N := 11) rfl hly_7_10 hlk_150 (hh_15.at 1 rfl) dX5_add_21 ?_
    refine lv_iconst (v := 1) hx hb dX5_add_24 (by decide) ?_
    refine lv_iadd hx hb dX5_add_25 ?_
    refine lv_topi (fun z_16 ez_16 => ?_)
    have hz_16 : z_16.toInt = pf.toInt + 1 := by rw [ez_16]; exact jb_iadd2 (rfl) ((by decide)) (by omega)
    refine j7_put hx hb hown hK hh_15 hB hAp hB7 (C := RX5) (T := TX5) (N := 11) rfl (by decide) hg_r0 (i := 10) (by decide) hly_7_10 rfl hlk_150 rfl (ty := .int) (v := .int z_16) (by decide +kernel) rfl rfl (⟨_, rfl, by omega, by omega⟩) rfl (L1 := [(r0, 7, 9, .ref fb_1)]) [0] rfl rfl rfl dX5_add_26 (fun H_17 locs_17 hh_17 => ?_)
    clear hh_15
    have hd_18 : jFr dC dI ca G0 r0 H_17 := ⟨_, _, _, hg_r0, hg_fb_1, hh_17.at 0 rfl, hh_17.at 1 rfl, hh_17.iv 0 rfl, (fun i h6 hi => by first | exact jFrc.put hf6_1 (by omega) (by omega) (by omega) hv_11 ho_11 i h6 hi | exact jFrc.full hf6_1 (by omega) i h6 hi)⟩
    have hh_19 := hh_17.sub (L1 := [(r0, 7, 10, .int z_16), (r0, 7, 9, .ref fb_1)]) [0, 1] rfl (M1 := []) [] rfl (I1 := []) [] rfl
    clear hh_17
    have hh_20 := hh_19.addI (jFr.ie hd_18)
    clear hh_19
    refine lv_iconst (v := 0) hx hb dX5_add_29 (by decide) ?_
    rw [hQ]
    exact W.iret (v := 0) hx hb hr (fun t ht hW => ⟨⟨0, z_16, rfl, by first | omega | (refine ⟨?_, ?_⟩ <;> (first | omega | rfl | assumption | decide | exact Or.inl rfl | exact Or.inr rfl | (simp only; omega))), ⟨hh_20.rt (M1 := [(r0, 7, 10, .int z_16)]) [0] rfl ht, by rw [ht]; exact hh_20.2.2.2.2.2.2.2.2.sub (L1 := [(jFg, jFr dC dI ca G0 r0)]) [0] rfl⟩⟩, by rw [ht]; try exact hh_20.1.1, fun q h9 hq => by rw [ht]; try exact hh_20.1.2.1 q h9 hq⟩) hh_20.1.2.2 dX5_add_30
set_option maxHeartbeats 4000000 in
set_option maxRecDepth 20000 in
theorem uX5_putFresh (l : Launch) (dC : Nat → ClassId) (dI : Nat → Nat → Nat) (ca : Nat → ClassId) (base : Nat) (B : jF) (hB : jBok B) (hAp : jAp (dC, dI)) (hB5 : ∀ n G a H, B 5 n G a H ↔ jOb (dC, dI) 5 4 (F5 n G) a H) (hB7 : ∀ n G a H, B 7 n G a H ↔ jOb (dC, dI) 7 11 (F7 n G) a H) (hB11 : ∀ n G a H, B 11 n G a H ↔ jOb (dC, dI) 11 9 (F11 n G) a H) (hB101 : ∀ n G a H, B 101 n G a H ↔ jAr (dC, dI) (ca 1) (fun j z => True) n a H) (hB211 : ∀ n G a H, B 211 n G a H ↔ jAq (dC, dI) (ca 7) (jQh) n G a H) (hB214 : ∀ n G a H, B 214 n G a H ↔ jAq (dC, dI) (ca 7) (jQg) n G a H) (hB280 : ∀ n G a H, B 280 n G a H ↔ jAr (dC, dI) (ca 1) (fun j z => -1 ≤ z.toInt) n a H) (hB313 : ∀ n G a H, B 313 n G a H ↔ jAq (dC, dI) (ca 8) (jQk 280 80) n G a H) (hB315 : ∀ n G a H, B 315 n G a H ↔ jAqZ (dC, dI) (ca 8) n a H) (G0 : jT) (H0 : Heap) (r0 : Nat) (r1 : Nat) (pf : Int32) (LC LS : Nat) : Met l yX5_putFresh (jw yX5_putFresh cX5_putFresh 5 (some .int)) ({ frames := 1, cells := LC - H0.size, slots := LS - jTot H0, locals := 21 }) (va_Pc [.ref r0, .ref r1] (fun U => U.heap = H0 ∧ jX B base G0 [] H0 ∧ jG dC dI ca base U ∧ jK2 dC dI ca U ∧ jK5 dC dI ca U ∧ jK6 U ∧ G0 r0 = some (7, 0) ∧ G0 r1 = some (11, 0) ∧ jP (dC, dI) G0 H0 [(r0, 7, 10, .int pf)] ∧ jIs (dC, dI) G0 H0 [(jFg, jFr dC dI ca G0 r0)] ∧ H0.size + 1 ≤ LC ∧ jTot H0 + 6 ≤ LS ∧ 0 ≤ pf.toInt ∧ pf.toInt ≤ 100)) (va_Qi (S := jT) (fun r u => (True)) (fun u t => jRa (dC, dI) B base G0 u EX5_putFresh H0 (1) (6) [] t.heap ∧ (jNk [0, 1, 2, 3, 4, 5, 6, 7, 8, 9, 10, 11, 12, 13, 14, 15, 16, 17, 175]) G0 u ∧ jIs (dC, dI) u t.heap [(jFg, jFr dC dI ca u r0)]) (jA base)) (LC - H0.size) (LS - jTot H0) (jA base) := by
  refine Met.ofW (cc := cX5_putFresh) (maxL := 5) (ret := (some .int)) (by decide) rfl ?_
  intro p e s m args below meth c s₁ Bd hml hv
  obtain ⟨rfl, hH0, hX, hG, hK2, hK5, hK6, hg_r0, hg_r1, hP0, hI0, hLC0, hLS0, hp0, hp1⟩ := hv
  have hK := hG.1
  have hx := Bd.exec
  have hb := Bd.bytes
  have hr := Bd.returns
  have hts := atoms_spec (ws := (jw yX5_putFresh cX5_putFresh 5 (some .int))) Bd.pre
  have htw : ∀ w ∈ jWl, w.before _ s = true := fun w h => hts w (List.mem_cons_of_mem _ h)
  have hown : s.vm.findClass RX5 = some m.cls := findClass_of_methodNamed Bd.named
  have hlocks := Bd.notSynchronized
  obtain ⟨Q, hQ⟩ : ∃ Q, Q = MQ below (va_Qi (S := jT) (fun r u => (True)) (fun u t => jRa (dC, dI) B base G0 u EX5_putFresh H0 (1) (6) [] t.heap ∧ (jNk [0, 1, 2, 3, 4, 5, 6, 7, 8, 9, 10, 11, 12, 13, 14, 15, 16, 17, 175]) G0 u ∧ jIs (dC, dI) u t.heap [(jFg, jFr dC dI ca u r0)]) (jA base)) ([.ref r0, .ref r1] : List Value).toArray s (LC - H0.size) (LS - jTot H0) (jA base) := ⟨_, rfl⟩
  rw [← hQ]
  have hl := lv_entry ([.ref r0, .ref r1]) (n := 5) (Nat.le_of_ble_eq_true rfl)
  rw [lg_entry_eq]
  generalize (lg_sl ([.ref r0, .ref r1]) ++ List.replicate (5 - (lg_sl ([.ref r0, .ref r1])).length) Slot.unset).toArray = ls at hl ⊢
  have hl : lv_has ls 5 [(0, .ref r0), (1, .ref r1)] := hl
  generalize hR : (headSpec (jw yX5_putFresh cX5_putFresh 5 (some .int)) ({ frames := 1, cells := LC - H0.size, slots := LS - jTot H0, locals := 21 })).room = R
  subst hH0
  have hh : jSt (dC, dI) B base G0 G0 EX5_putFresh s.heap 0 0 [(r0, 7, 10, .int pf)] [] [(jFg, jFr dC dI ca G0 r0)] s.heap [] := jSt.start hX hP0 jMc.nil hI0
  clear hX hP0
  have hk0 : (0 : Int32).toInt = 0 := by decide
  have hk1 : (1 : Int32).toInt = 1 := by decide
  have hk6 : (6 : Int32).toInt = 6 := by decide
  have hk9 : (9 : Int32).toInt = 9 := by decide
  have hly_7_9 := htw (u_lay RX5 TX5 9) (jWc_wsX50 _ (u_in_lay (by decide)))
  have hly_7_10 := htw (u_lay RX5 TX5 10) (jWc_wsX50 _ (u_in_lay (by decide)))
  have hly_11_8 := htw (u_lay RX9 TX9 8) (jWc_wsX90 _ (u_in_lay (by decide)))
  have hlk_150 := (htw (.fieldLink RX5 150 "ProofServer$Kernel" "freshCount" "I") (jWr_84 _ (List.mem_of_getElem? (i := 2) rfl)))
  have hlk_140 := (htw (.fieldLink RX5 140 "ProofServer$State" "goals" "[LProofServer$Goal;") (jWr_82 _ (List.mem_of_getElem? (i := 12) rfl)))
  have hlk_55 := (htw (.fieldLink RX5 55 "ProofServer$Kernel" "fresh" "[LProofServer$Goal;") (jWr_5 _ (List.mem_of_getElem? (i := 3) rfl)))
  have hbs : base ≤ s.heap.size := Nat.le_of_lt (Nat.lt_of_le_of_lt (hh.ab hg_r0).1 (hh.ab hg_r0).2)
  have hRc : R.cells = LC - s.heap.size := by rw [← hR]; rfl
  have hRs : R.slots = LS - jTot s.heap := by rw [← hR]; rfl
  obtain ⟨fc_1, fb_1, fq_1, hf1_1, hg_fb_1, hf3_1, hf4_1, hf5_1, hf6_1⟩ := hh.iv 0 rfl
  obtain rfl : pf = fc_1 := Value.int.inj (jf.uniq (hh.at 0 rfl) hf3_1)
  have hh_2 := hh.more (P1 := [(r0, 7, 9, .ref fb_1)]) (jP.cons hg_r0 hf4_1 jP.nil)
  clear hh hf4_1
  have hfq_1 := hf5_1
  have hh_3 := hh_2.addI (jQc.ie hf5_1 hg_fb_1 (by decide) (by decide))
  clear hh_2
  refine lv_aload_n hx hb dX5_putFresh_0 rfl (lv_at hl 0 rfl) ?_
  refine j7_read hx hb hown hK (C := RX5) (T := TX5) (N := 11) rfl hly_7_10 hlk_150 (hh_3.at 1 rfl) dX5_putFresh_1 ?_
  refine lv_aload_n hx hb dX5_putFresh_4 rfl (lv_at hl 1 rfl) ?_
  obtain ⟨v_4, hv_4, hh_5⟩ := hh_3.pin (C := RX9) (T := TX9) (N := 9) hB11 rfl (by decide) hg_r1 (i := 8) (by decide) rfl
  clear hh_3
  obtain ⟨goals_6, ngoals_6, rfl, hg_goals_6, hn_goals_6⟩ := hv_4
  refine j7_read hx hb hown hK (C := RX9) (T := TX9) (N := 9) rfl hly_11_8 hlk_140 (hh_5.at 0 rfl) dX5_putFresh_5 ?_
  refine j7_qlen hx hb hK2 hh_5 hB214 3 rfl (by decide) hg_goals_6 (by omega) dX5_putFresh_8 (fun z_7 hz_7 => ?_)
  refine lv_iadd hx hb dX5_putFresh_9 ?_
  refine lv_topi (fun z_8 ez_8 => ?_)
  have hz_8 : z_8.toInt = pf.toInt + z_7.toInt := by rw [ez_8]; exact jb_iadd2 (rfl) (rfl) (by omega)
  refine lv_iconst (v := 1) hx hb dX5_putFresh_10 (by decide) ?_
  refine lv_isub hx hb dX5_putFresh_11 ?_
  refine lv_topi (fun z_9 ez_9 => ?_)
  have hz_9 : z_9.toInt = z_8.toInt - 1 := by rw [ez_9]; exact jb_isub2 (rfl) ((by decide)) (by omega)
  refine lv_istore_n (lv' := [(2, .int z_9), (0, .ref r0), (1, .ref r1)]) hx hb dX5_putFresh_12 rfl hl (by decide) rfl (fun ls hl => ?_)
  refine lv_iload_n hx hb dX5_putFresh_13 rfl (lv_at hl 0 rfl) ?_
  refine lv_if_lt (tgt := 23) hx hb dX5_putFresh_14 (by decide) (fun c_10 => ?_) (fun c_10 => ?_)
  · skip
    have c_10' : z_9.toInt < 0 := jb_lt (rfl) ((by decide)) c_10
    refine lv_bipush (v := 9) hx hb dX5_putFresh_23 (by decide) ?_
    have hsz_11 := hh_5.2.2.2.2.2.1
    have htt_11 := hh_5.2.2.2.2.2.2.1
    refine W.room (fun hrc_11 hrs_11 => ?_)
    refine W.widen (k := LC - s.heap.size) (n := LS - jTot s.heap) (by omega) (by omega) ?_
    rw [hQ]
    exact W.iret (v := 9) hx hb hr (fun t ht hW => ⟨⟨9, G0, rfl, trivial, ⟨hh_5.ra (by first | omega | (simp only; omega)) (by first | omega | (simp only; omega)) (M1 := []) [] rfl ht, jNk.rf, by rw [ht]; exact hh_5.2.2.2.2.2.2.2.2.sub (L1 := [(jFg, jFr dC dI ca G0 r0)]) [1] rfl⟩⟩, by rw [ht]; try exact hh_5.1.1, fun q h9 hq => by rw [ht]; try exact hh_5.1.2.1 q h9 hq⟩) hh_5.1.2.2 dX5_putFresh_25
  · skip
    have c_10' : z_9.toInt ≥ 0 := jb_lt_n (rfl) ((by decide)) c_10
    refine lv_iload_n hx hb dX5_putFresh_17 rfl (lv_at hl 0 rfl) ?_
    refine lv_bipush (v := 6) hx hb dX5_putFresh_18 (by decide) ?_
    refine lv_icmp_le (tgt := 26) hx hb dX5_putFresh_20 (by decide) (fun c_12 => ?_) (fun c_12 => ?_)
    · skip
      have c_12' : z_9.toInt ≤ 6 := jb_le (rfl) ((by decide)) c_12
      refine lv_iload_n hx hb dX5_putFresh_26 rfl (lv_at hl 0 rfl) ?_
      have hsz_13 := hh_5.2.2.2.2.2.1
      have htt_13 := hh_5.2.2.2.2.2.2.1
      have hsy_13 : s.heap.size ≤ s.heap.size := hh_5.1.1
      refine j7_newqR hx hb hown (htw (.classLink RX5 53 RX3) (jWr_5 _ (List.mem_of_getElem? (i := 2) rfl))) hK6.2.2.2 hK2 hh_5 hB 3 rfl (x := z_9.toInt) rfl (by omega) (by rw [hRc]; omega) (by rw [hRs]; omega) dX5_putFresh_27 (fun H_13 hfr_13 hnr_13 hraw_13 hh_13 => ?_)
      have hke_13 : jKe G0 G0 s.heap H_13 := jKe.raw hfr_13
      have hbr_13 : base ≤ s.heap.size := Nat.le_trans hbs hsy_13
      obtain ⟨nq_13, hnq_13⟩ : ∃ q : Nat, q = (z_9.toInt).toNat := ⟨_, rfl⟩
      rw [← hnq_13] at hraw_13 hh_13 ⊢
      clear hh_5
      refine lv_astore_n (lv' := [(3, .ref s.heap.size), (2, .int z_9), (0, .ref r0), (1, .ref r1)]) hx hb dX5_putFresh_30 rfl hl (by decide) rfl (fun ls hl => ?_)
      refine lv_iconst (v := 0) hx hb dX5_putFresh_31 (by decide) ?_
      refine lv_istore (lv' := [(4, .int 0), (3, .ref s.heap.size), (2, .int z_9), (0, .ref r0), (1, .ref r1)]) hx hb dX5_putFresh_32 hl (by decide) rfl (fun ls hl => ?_)
      have L34 : ∀ (N : Nat) (fq_14 : Nat → Option Nat) (v4_14 : Int32) (H_14 : Heap) (locs_14 : List Loc), jSt (dC, dI) B base G0 G0 EX5_putFresh s.heap (0 + 1) (0 + nq_13) [(r1, 11, 8, .ref goals_6), (r0, 7, 9, .ref fb_1), (r0, 7, 10, .int pf)] [] [([(211, 0)], jQc dC dI (ca 7) fb_1 6 fq_1), (jFg, jFr dC dI ca G0 r0)] H_14 locs_14 → va_at (dC, dI) vwCl (s.heap.size, .inl (ca 7, nq_13, .inr (.inr (.inr (.inr fq_14))))) H_14 → (0 ≤ v4_14.toInt ∧ v4_14.toInt ≤ z_9.toInt ∧ jGq G0 fq_14 v4_14.toInt) → (z_9.toInt - v4_14.toInt : Int) < N → ∀ ls : Array Slot, lv_has ls 5 [(0, .ref r0), (1, .ref r1), (2, .int z_9), (3, .ref s.heap.size), (4, .int v4_14)] → W p l e R s m ([.ref r0, .ref r1] : List Value).toArray below meth c H_14 locs_14 (0 + 1) (0 + nq_13) Q (F0 m 34 ls []) := by
        intro N
        induction N with
        | zero => intro fq_14 v4_14 H_14 locs_14 hh_14 hraw_14 hi_14 hm; exact absurd hm (by omega)
        | succ N L34 =>
          intro fq_14 v4_14 H_14 locs_14 hh_14 hraw_14 hi_14 hm_14 ls hl
          obtain ⟨hi_14_0, hi_14_1, hi_14_2⟩ := hi_14
          refine lv_iload hx hb dX5_putFresh_34 (lv_at hl 4 rfl) ?_
          refine lv_iload_n hx hb dX5_putFresh_36 rfl (lv_at hl 2 rfl) ?_
          refine lv_icmp_ge (tgt := 96) hx hb dX5_putFresh_37 (by decide) (fun c_15 => ?_) (fun c_15 => ?_)
          · skip
            have c_15' : v4_14.toInt ≥ z_9.toInt := jb_ge (rfl) (rfl) c_15
            have hle_16 : jLe G0 (va_up G0 s.heap.size (some (214, nq_13))) := jLe.typ hnr_13
            have hh_16 := hh_14.typ (k := 214) (n := nq_13) hB hnr_13 hbr_13 hraw_14.lt (jAq.of hB214 hraw_14 (hi_14_2.all (by omega) hle_16))
            have hgn_16 : (va_up G0 s.heap.size (some (214, nq_13))) s.heap.size = some (214, nq_13) := jUp_self
            have hN_16 : (jNk [0, 1, 2, 3, 4, 5, 6, 7, 8, 9, 10, 11, 12, 13, 14, 15, 16, 17, 175]) G0 (va_up G0 s.heap.size (some (214, nq_13))) := jNk.new (by decide)
            have hNn_16 : (jNk [0, 1, 2, 3, 4, 5, 6, 7, 8, 9, 10, 11, 12, 13, 14, 15, 16, 17, 175]) G0 (va_up G0 s.heap.size (some (214, nq_13))) := (jNk.rf).tr hN_16
            generalize (va_up G0 s.heap.size (some (214, nq_13))) = G_16 at hN_16 hNn_16 hgn_16 hle_16 hh_16
            have hg_17 := hle_16 _ _ hg_r0
            have hg_18 := hle_16 _ _ hg_r1
            have hg_19 := hle_16 _ _ hg_goals_6
            have hg_20 := hle_16 _ _ hg_fb_1
            have hd_22 := jFr.grow (hh_16.iv 1 rfl) hle_16
            have hh_23 := hh_16.sub (L1 := [(r1, 11, 8, .ref goals_6), (r0, 7, 9, .ref fb_1), (r0, 7, 10, .int pf)]) [0, 1, 2] rfl (M1 := []) [] rfl (I1 := [([(211, 0)], jQc dC dI (ca 7) fb_1 6 fq_1)]) [0] rfl
            clear hh_16
            have hh_24 := hh_23.addI (jFr.ie hd_22)
            clear hh_23
            refine lv_aload_n hx hb dX5_putFresh_96 rfl (lv_at hl 1 rfl) ?_
            refine lv_aload_n hx hb dX5_putFresh_97 rfl (lv_at hl 3 rfl) ?_
            refine j7_put hx hb hown hK hh_24 hB hAp hB11 (C := RX9) (T := TX9) (N := 9) rfl (by decide) hg_18 (i := 8) (by decide) hly_11_8 rfl hlk_140 rfl (ty := (.array (.object "ProofServer$Goal"))) (v := .ref s.heap.size) (by decide +kernel) rfl rfl (⟨_, _, rfl, hgn_16, by omega⟩) rfl (L1 := [(r0, 7, 9, .ref fb_1), (r0, 7, 10, .int pf)]) [1, 2] rfl rfl rfl dX5_putFresh_98 (fun H_25 locs_25 hh_25 => ?_)
            clear hh_24
            refine lv_iconst (v := 0) hx hb dX5_putFresh_101 (by decide) ?_
            have hsz_26 := hh_25.2.2.2.2.2.1
            have htt_26 := hh_25.2.2.2.2.2.2.1
            refine W.room (fun hrc_26 hrs_26 => ?_)
            refine W.widen (k := LC - s.heap.size) (n := LS - jTot s.heap) (by omega) (by omega) ?_
            rw [hQ]
            exact W.iret (v := 0) hx hb hr (fun t ht hW => ⟨⟨0, G_16, rfl, trivial, ⟨hh_25.ra (by first | omega | (simp only; omega)) (by first | omega | (simp only; omega)) (M1 := []) [] rfl ht, hNn_16, by rw [ht]; exact hh_25.2.2.2.2.2.2.2.2.sub (L1 := [(jFg, jFr dC dI ca G_16 r0)]) [0] rfl⟩⟩, by rw [ht]; try exact hh_25.1.1, fun q h9 hq => by rw [ht]; try exact hh_25.1.2.1 q h9 hq⟩) hh_25.1.2.2 dX5_putFresh_102
          · skip
            have c_15' : v4_14.toInt < z_9.toInt := jb_ge_n (rfl) (rfl) c_15
            refine lv_aload_n hx hb dX5_putFresh_40 rfl (lv_at hl 3 rfl) ?_
            refine lv_iload hx hb dX5_putFresh_41 (lv_at hl 4 rfl) ?_
            refine lv_iload hx hb dX5_putFresh_43 (lv_at hl 4 rfl) ?_
            refine lv_aload_n hx hb dX5_putFresh_45 rfl (lv_at hl 0 rfl) ?_
            refine j7_read hx hb hown hK (C := RX5) (T := TX5) (N := 11) rfl hly_7_10 hlk_150 (hh_14.at 2 rfl) dX5_putFresh_46 ?_
            refine lv_icmp_ge (tgt := 62) hx hb dX5_putFresh_49 (by decide) (fun c_27 => ?_) (fun c_27 => ?_)
            · skip
              have c_27' : v4_14.toInt ≥ pf.toInt := jb_ge (rfl) (rfl) c_27
              refine lv_aload_n hx hb dX5_putFresh_62 rfl (lv_at hl 1 rfl) ?_
              refine j7_read hx hb hown hK (C := RX9) (T := TX9) (N := 9) rfl hly_11_8 hlk_140 (hh_14.at 0 rfl) dX5_putFresh_63 ?_
              refine lv_iload hx hb dX5_putFresh_66 (lv_at hl 4 rfl) ?_
              refine lv_aload_n hx hb dX5_putFresh_68 rfl (lv_at hl 0 rfl) ?_
              refine j7_read hx hb hown hK (C := RX5) (T := TX5) (N := 11) rfl hly_7_10 hlk_150 (hh_14.at 2 rfl) dX5_putFresh_69 ?_
              refine lv_isub hx hb dX5_putFresh_72 ?_
              refine lv_topi (fun z_28 ez_28 => ?_)
              have hz_28 : z_28.toInt = v4_14.toInt - pf.toInt := by rw [ez_28]; exact jb_isub2 (rfl) (rfl) (by omega)
              refine lv_iconst (v := 1) hx hb dX5_putFresh_73 (by decide) ?_
              refine lv_iadd hx hb dX5_putFresh_74 ?_
              refine lv_topi (fun z_29 ez_29 => ?_)
              have hz_29 : z_29.toInt = z_28.toInt + 1 := by rw [ez_29]; exact jb_iadd2 (rfl) ((by decide)) (by omega)
              refine j7_qald hx hb hK2 hh_14 hB214 3 rfl (by decide) hg_goals_6 (x := z_29.toInt) (rfl) (by omega) dX5_putFresh_75 (fun o_30 ho_30 => ?_)
              obtain ⟨el_31, nel_31, rfl, hg_el_31, hm_el_31⟩ := ho_30
              simp only [va_rf]
              refine j7_qastR hx hb hK2 hh_14 hB hraw_14 hnr_13 hbr_13 3 rfl (x := v4_14.toInt) (rfl) (by omega) hB5 (T := TX3) (N := 4) rfl (by decide) hg_el_31 dX5_putFresh_76 (fun H_32 locs_32 hraw_32 hr_32 hh_32 => ?_)
              clear hr_32
              clear hh_14
              refine lv_aload_n hx hb dX5_putFresh_77 rfl (lv_at hl 3 rfl) ?_
              refine lv_iload hx hb dX5_putFresh_78 (lv_at hl 4 rfl) ?_
              refine j7_qaldR hx hb hK2 hraw_32 3 rfl (x := v4_14.toInt) (rfl) (by omega) (v := el_31) (by simp [va_up]) dX5_putFresh_80 ?_
              have hsz_33 := hh_32.2.2.2.2.2.1
              have htt_33 := hh_32.2.2.2.2.2.2.1
              refine W.room (fun hrc_33 hrs_33 => ?_)
              refine va_calli (A0 := jA base) (H0 := s.heap) (va_runV (As := []) (rest := []) ⟨hx, hb, hml, hown, hts⟩ (uX3_fits l dC dI ca base B hB hAp hB5 hB101 hB280 hB313 hB315 G0 H_32 el_31 nel_31) (cwV 0 hts (jgV (jWr_89 _ (List.mem_of_getElem? (i := 0) rfl)) (jWr_89 _ (List.mem_of_getElem? (i := 1) rfl)) (jWr_89 _ (List.mem_of_getElem? (i := 2) rfl)) (jWr_82 _ (List.mem_of_getElem? (i := 10) rfl)) (jWr_89 _ (List.mem_of_getElem? (i := 3) rfl))) rfl rfl rfl (by decide +kernel) ⟨by rw [← hR]; exact Nat.le_of_ble_eq_true rfl, by rw [← hR]; exact Nat.le_of_ble_eq_true rfl⟩) ⟨fun a U g mk q => by obtain ⟨q0, q1, q2, qK, q10, q11, q12, q13⟩ := q; exact ⟨q0, q1, q2, jG.calling g mk a qK, (jK5.moved (Vm.Alike.refl U.vm) q10), q11, q12, q13⟩, hh_32.recv (C := RX3) (T := TX3) (N := 4) hB5 rfl (by decide) hg_el_31 hK, fun U hU hW => ⟨rfl, hU, hh_32.2.1, hG.step hW hU hh_32.1, jK5.moved hW.alike hK5, hg_el_31, jP.nil, by first | omega | rfl | assumption | decide | exact Or.inl rfl | exact Or.inr rfl | (simp only; omega)⟩⟩ rfl rfl hl.1 rfl (lv_room (Nat.le_of_ble_eq_true rfl)) dX5_putFresh_81 ⟨by rw [hRc]; show _ + 0 ≤ _; omega, by rw [hRs]; show _ + 0 ≤ _; omega⟩) hh_32.1 (fun q _ h => h) (fun q h => h) (fun r_34 u_33 t_33 H_33 locs_33 ht_33 hvm_33 hr_34 hb_33 hz_33 hk_33 hS_33 => ?_)
              rw [ht_33] at hb_33
              obtain ⟨hb_33, hbF_33⟩ := hb_33
              obtain ⟨hb_331, hb_332, hb_333, hb_334, hb_335⟩ := hb_33
              have hh_33 : jSt (dC, dI) B base G0 G0 EX5_putFresh s.heap (0 + 1) (0 + nq_13) [(r1, 11, 8, .ref goals_6), (r0, 7, 9, .ref fb_1), (r0, 7, 10, .int pf)] [] [([(211, 0)], jQc dC dI (ca 7) fb_1 6 fq_1), (jFg, jFr dC dI ca G0 r0)] H_33 locs_33 := ((hh_32.call hb_331 hb_332 hb_333 hb_334 hS_33 rfl (L1 := [(r1, 11, 8, .ref goals_6), (r0, 7, 9, .ref fb_1), (r0, 7, 10, .int pf)]) [0, 1, 2] rfl rfl (M1 := []) [] rfl rfl (I1 := [([(211, 0)], jQc dC dI (ca 7) fb_1 6 fq_1), (jFg, jFr dC dI ca G0 r0)]) [0, 1] rfl rfl).more hb_335)
              clear hh_32 ht_33 hvm_33 hz_33 hk_33 hS_33 hb_331 hb_332 hb_333 hb_334 hb_335
              have hraw_35 := hraw_32.kept (hbF_33 _ (by simp))
              obtain ⟨hr_34b, hr_34p⟩ := hr_34
              have hr_34' := jb_01 hr_34b
              refine lv_if_ne (tgt := 90) hx hb dX5_putFresh_84 (by decide) (fun c_36 => ?_) (fun c_36 => ?_)
              · skip
                have c_36' : r_34.toInt ≠ 0 := jb_ne (rfl) ((by decide)) c_36
                obtain ⟨z_37, ez_37⟩ : ∃ y : Int32, y = v4_14 + 1 := ⟨_, rfl⟩
                refine lv_iinc (v := z_37) (lv' := [(4, .int z_37), (0, .ref r0), (1, .ref r1), (2, .int z_9), (3, .ref s.heap.size)]) hx hb dX5_putFresh_90 hl (k := 4) rfl (by rw [ez_37]; rfl) (by decide) rfl (fun ls hl => ?_)
                have hz_37 : z_37.toInt = v4_14.toInt + 1 := by rw [ez_37]; exact jb_iadd2 (rfl) (by decide) (by omega)
                refine lv_goto (tgt := 34) hx hb dX5_putFresh_93 (by decide) ?_
                refine W.tight (c2 := (0 + 1)) (n2 := (0 + nq_13)) hh_33.2.2.2.2.2.1 hh_33.2.2.2.2.2.2.1 ?_
                exact L34 (va_up fq_14 (v4_14.toInt).toNat (some el_31)) z_37 _ _ hh_33 (hraw_35) (by refine ⟨by omega, by omega, ?_⟩; exact hi_14_2.put (by omega) rfl (by omega) (by assumption) (hr_34p (by omega))) (by omega) _ (lv_sub hl [1, 2, 3, 4, 0] rfl)
              · skip
                have c_36' : r_34.toInt = 0 := jb_ne_n (rfl) ((by decide)) c_36
                refine lv_bipush (v := 9) hx hb dX5_putFresh_87 (by decide) ?_
                have hsz_38 := hh_33.2.2.2.2.2.1
                have htt_38 := hh_33.2.2.2.2.2.2.1
                refine W.room (fun hrc_38 hrs_38 => ?_)
                refine W.widen (k := LC - s.heap.size) (n := LS - jTot s.heap) (by omega) (by omega) ?_
                rw [hQ]
                exact W.iret (v := 9) hx hb hr (fun t ht hW => ⟨⟨9, G0, rfl, trivial, ⟨hh_33.ra (by first | omega | (simp only; omega)) (by first | omega | (simp only; omega)) (M1 := []) [] rfl ht, jNk.rf, by rw [ht]; exact hh_33.2.2.2.2.2.2.2.2.sub (L1 := [(jFg, jFr dC dI ca G0 r0)]) [1] rfl⟩⟩, by rw [ht]; try exact hh_33.1.1, fun q h9 hq => by rw [ht]; try exact hh_33.1.2.1 q h9 hq⟩) hh_33.1.2.2 dX5_putFresh_89
            · skip
              have c_27' : v4_14.toInt < pf.toInt := jb_ge_n (rfl) (rfl) c_27
              refine lv_aload_n hx hb dX5_putFresh_52 rfl (lv_at hl 0 rfl) ?_
              refine j7_read hx hb hown hK (C := RX5) (T := TX5) (N := 11) rfl hly_7_9 hlk_55 (hh_14.at 1 rfl) dX5_putFresh_53 ?_
              refine lv_iload hx hb dX5_putFresh_56 (lv_at hl 4 rfl) ?_
              refine j7_qaldI hx hb hK2 hh_14 hB211 3 rfl (by decide) hg_fb_1 (x := v4_14.toInt) (rfl) (by omega) (hh_14.iv 0 rfl) dX5_putFresh_58 (fun o_39 ho_39 heo_39 => ?_)
              rcases ho_39 with rfl | ⟨el_40, nel_40, rfl, hg_el_40, hm_el_40⟩
              · simp only [va_rf]
                exact absurd heo_39.symm (hf6_1 _ (by omega) (by omega))
              · simp only [va_rf]
                refine lv_goto (tgt := 76) hx hb dX5_putFresh_59 (by decide) ?_
                refine j7_qastR hx hb hK2 hh_14 hB hraw_14 hnr_13 hbr_13 3 rfl (x := v4_14.toInt) (rfl) (by omega) hB5 (T := TX3) (N := 4) rfl (by decide) hg_el_40 dX5_putFresh_76 (fun H_41 locs_41 hraw_41 hr_41 hh_41 => ?_)
                clear hr_41
                clear hh_14
                refine lv_aload_n hx hb dX5_putFresh_77 rfl (lv_at hl 3 rfl) ?_
                refine lv_iload hx hb dX5_putFresh_78 (lv_at hl 4 rfl) ?_
                refine j7_qaldR hx hb hK2 hraw_41 3 rfl (x := v4_14.toInt) (rfl) (by omega) (v := el_40) (by simp [va_up]) dX5_putFresh_80 ?_
                have hsz_42 := hh_41.2.2.2.2.2.1
                have htt_42 := hh_41.2.2.2.2.2.2.1
                refine W.room (fun hrc_42 hrs_42 => ?_)
                refine va_calli (A0 := jA base) (H0 := s.heap) (va_runV (As := []) (rest := []) ⟨hx, hb, hml, hown, hts⟩ (uX3_fits l dC dI ca base B hB hAp hB5 hB101 hB280 hB313 hB315 G0 H_41 el_40 nel_40) (cwV 0 hts (jgV (jWr_89 _ (List.mem_of_getElem? (i := 0) rfl)) (jWr_89 _ (List.mem_of_getElem? (i := 1) rfl)) (jWr_89 _ (List.mem_of_getElem? (i := 2) rfl)) (jWr_82 _ (List.mem_of_getElem? (i := 10) rfl)) (jWr_89 _ (List.mem_of_getElem? (i := 3) rfl))) rfl rfl rfl (by decide +kernel) ⟨by rw [← hR]; exact Nat.le_of_ble_eq_true rfl, by rw [← hR]; exact Nat.le_of_ble_eq_true rfl⟩) ⟨fun a U g mk q => by obtain ⟨q0, q1, q2, qK, q10, q11, q12, q13⟩ := q; exact ⟨q0, q1, q2, jG.calling g mk a qK, (jK5.moved (Vm.Alike.refl U.vm) q10), q11, q12, q13⟩, hh_41.recv (C := RX3) (T := TX3) (N := 4) hB5 rfl (by decide) hg_el_40 hK, fun U hU hW => ⟨rfl, hU, hh_41.2.1, hG.step hW hU hh_41.1, jK5.moved hW.alike hK5, hg_el_40, jP.nil, by first | omega | rfl | assumption | decide | exact Or.inl rfl | exact Or.inr rfl | (simp only; omega)⟩⟩ rfl rfl hl.1 rfl (lv_room (Nat.le_of_ble_eq_true rfl)) dX5_putFresh_81 ⟨by rw [hRc]; show _ + 0 ≤ _; omega, by rw [hRs]; show _ + 0 ≤ _; omega⟩) hh_41.1 (fun q _ h => h) (fun q h => h) (fun r_43 u_42 t_42 H_42 locs_42 ht_42 hvm_42 hr_43 hb_42 hz_42 hk_42 hS_42 => ?_)
                rw [ht_42] at hb_42
                obtain ⟨hb_42, hbF_42⟩ := hb_42
                obtain ⟨hb_421, hb_422, hb_423, hb_424, hb_425⟩ := hb_42
                have hh_42 : jSt (dC, dI) B base G0 G0 EX5_putFresh s.heap (0 + 1) (0 + nq_13) [(r1, 11, 8, .ref goals_6), (r0, 7, 9, .ref fb_1), (r0, 7, 10, .int pf)] [] [([(211, 0)], jQc dC dI (ca 7) fb_1 6 fq_1), (jFg, jFr dC dI ca G0 r0)] H_42 locs_42 := ((hh_41.call hb_421 hb_422 hb_423 hb_424 hS_42 rfl (L1 := [(r1, 11, 8, .ref goals_6), (r0, 7, 9, .ref fb_1), (r0, 7, 10, .int pf)]) [0, 1, 2] rfl rfl (M1 := []) [] rfl rfl (I1 := [([(211, 0)], jQc dC dI (ca 7) fb_1 6 fq_1), (jFg, jFr dC dI ca G0 r0)]) [0, 1] rfl rfl).more hb_425)
                clear hh_41 ht_42 hvm_42 hz_42 hk_42 hS_42 hb_421 hb_422 hb_423 hb_424 hb_425
                have hraw_44 := hraw_41.kept (hbF_42 _ (by simp))
                obtain ⟨hr_43b, hr_43p⟩ := hr_43
                have hr_43' := jb_01 hr_43b
                refine lv_if_ne (tgt := 90) hx hb dX5_putFresh_84 (by decide) (fun c_45 => ?_) (fun c_45 => ?_)
                · skip
                  have c_45' : r_43.toInt ≠ 0 := jb_ne (rfl) ((by decide)) c_45
                  obtain ⟨z_46, ez_46⟩ : ∃ y : Int32, y = v4_14 + 1 := ⟨_, rfl⟩
                  refine lv_iinc (v := z_46) (lv' := [(4, .int z_46), (0, .ref r0), (1, .ref r1), (2, .int z_9), (3, .ref s.heap.size)]) hx hb dX5_putFresh_90 hl (k := 4) rfl (by rw [ez_46]; rfl) (by decide) rfl (fun ls hl => ?_)
                  have hz_46 : z_46.toInt = v4_14.toInt + 1 := by rw [ez_46]; exact jb_iadd2 (rfl) (by decide) (by omega)
                  refine lv_goto (tgt := 34) hx hb dX5_putFresh_93 (by decide) ?_
                  refine W.tight (c2 := (0 + 1)) (n2 := (0 + nq_13)) hh_42.2.2.2.2.2.1 hh_42.2.2.2.2.2.2.1 ?_
                  exact L34 (va_up fq_14 (v4_14.toInt).toNat (some el_40)) z_46 _ _ hh_42 (hraw_44) (by refine ⟨by omega, by omega, ?_⟩; exact hi_14_2.put (by omega) rfl (by omega) (by assumption) (hr_43p (by omega))) (by omega) _ (lv_sub hl [1, 2, 3, 4, 0] rfl)
                · skip
                  have c_45' : r_43.toInt = 0 := jb_ne_n (rfl) ((by decide)) c_45
                  refine lv_bipush (v := 9) hx hb dX5_putFresh_87 (by decide) ?_
                  have hsz_47 := hh_42.2.2.2.2.2.1
                  have htt_47 := hh_42.2.2.2.2.2.2.1
                  refine W.room (fun hrc_47 hrs_47 => ?_)
                  refine W.widen (k := LC - s.heap.size) (n := LS - jTot s.heap) (by omega) (by omega) ?_
                  rw [hQ]
                  exact W.iret (v := 9) hx hb hr (fun t ht hW => ⟨⟨9, G0, rfl, trivial, ⟨hh_42.ra (by first | omega | (simp only; omega)) (by first | omega | (simp only; omega)) (M1 := []) [] rfl ht, jNk.rf, by rw [ht]; exact hh_42.2.2.2.2.2.2.2.2.sub (L1 := [(jFg, jFr dC dI ca G0 r0)]) [1] rfl⟩⟩, by rw [ht]; try exact hh_42.1.1, fun q h9 hq => by rw [ht]; try exact hh_42.1.2.1 q h9 hq⟩) hh_42.1.2.2 dX5_putFresh_89
      refine W.tight (c2 := (0 + 1)) (n2 := (0 + nq_13)) hh_13.2.2.2.2.2.1 hh_13.2.2.2.2.2.2.1 ?_
      exact L34 (z_9.toInt - (0 : Int32).toInt : Int).toNat.succ (fun _ => none) 0 _ _ hh_13 (hraw_13) (by refine ⟨by omega, by omega, jGq.zero (by omega)⟩) (by omega) _ (lv_sub hl [3, 4, 2, 1, 0] rfl)
    · skip
      have c_12' : z_9.toInt > 6 := jb_le_n (rfl) ((by decide)) c_12
      refine lv_bipush (v := 9) hx hb dX5_putFresh_23 (by decide) ?_
      have hsz_48 := hh_5.2.2.2.2.2.1
      have htt_48 := hh_5.2.2.2.2.2.2.1
      refine W.room (fun hrc_48 hrs_48 => ?_)
      refine W.widen (k := LC - s.heap.size) (n := LS - jTot s.heap) (by omega) (by omega) ?_
      rw [hQ]
      exact W.iret (v := 9) hx hb hr (fun t ht hW => ⟨⟨9, G0, rfl, trivial, ⟨hh_5.ra (by first | omega | (simp only; omega)) (by first | omega | (simp only; omega)) (M1 := []) [] rfl ht, jNk.rf, by rw [ht]; exact hh_5.2.2.2.2.2.2.2.2.sub (L1 := [(jFg, jFr dC dI ca G0 r0)]) [1] rfl⟩⟩, by rw [ht]; try exact hh_5.1.1, fun q h9 hq => by rw [ht]; try exact hh_5.1.2.1 q h9 hq⟩) hh_5.1.2.2 dX5_putFresh_25
end
section
theorem dX5_named_0 : decode cX5_named 0 = .ok (.aload_n 1, 1) := by decide +kernel
theorem dX5_named_1 : decode cX5_named 1 = .ok (.ifnonnull 7, 3) := by decide +kernel
theorem dX5_named_4 : decode cX5_named 4 = .ok (.iconst (-1), 1) := by decide +kernel
theorem dX5_named_5 : decode cX5_named 5 = .ok (.goto 11, 3) := by decide +kernel
theorem dX5_named_8 : decode cX5_named 8 = .ok (.aload_n 1, 1) := by decide +kernel
theorem dX5_named_9 : decode cX5_named 9 = .ok (.getfield 164, 3) := by decide +kernel
theorem dX5_named_12 : decode cX5_named 12 = .ok (.iload_n 2, 1) := by decide +kernel
theorem dX5_named_13 : decode cX5_named 13 = .ok (.invokestatic 166, 3) := by decide +kernel
theorem dX5_named_16 : decode cX5_named 16 = .ok (.istore_n 3, 1) := by decide +kernel
theorem dX5_named_17 : decode cX5_named 17 = .ok (.aload_n 1, 1) := by decide +kernel
theorem dX5_named_18 : decode cX5_named 18 = .ok (.ifnull 14, 3) := by decide +kernel
theorem dX5_named_21 : decode cX5_named 21 = .ok (.iload_n 3, 1) := by decide +kernel
theorem dX5_named_22 : decode cX5_named 22 = .ok (.ifCond .lt 10, 3) := by decide +kernel
theorem dX5_named_25 : decode cX5_named 25 = .ok (.aload_n 1, 1) := by decide +kernel
theorem dX5_named_26 : decode cX5_named 26 = .ok (.getfield 180, 3) := by decide +kernel
theorem dX5_named_29 : decode cX5_named 29 = .ok (.iload_n 3, 1) := by decide +kernel
theorem dX5_named_30 : decode cX5_named 30 = .ok (.aaload, 1) := by decide +kernel
theorem dX5_named_31 : decode cX5_named 31 = .ok (.areturn, 1) := by decide +kernel
theorem dX5_named_32 : decode cX5_named 32 = .ok (.aload_n 0, 1) := by decide +kernel
theorem dX5_named_33 : decode cX5_named 33 = .ok (.getfield 174, 3) := by decide +kernel
theorem dX5_named_36 : decode cX5_named 36 = .ok (.iload_n 2, 1) := by decide +kernel
theorem dX5_named_37 : decode cX5_named 37 = .ok (.invokestatic 166, 3) := by decide +kernel
theorem dX5_named_40 : decode cX5_named 40 = .ok (.istore 4, 2) := by decide +kernel
theorem dX5_named_42 : decode cX5_named 42 = .ok (.iload 4, 2) := by decide +kernel
theorem dX5_named_44 : decode cX5_named 44 = .ok (.ifCond .ge 7, 3) := by decide +kernel
theorem dX5_named_47 : decode cX5_named 47 = .ok (.aconst_null, 1) := by decide +kernel
theorem dX5_named_48 : decode cX5_named 48 = .ok (.goto 10, 3) := by decide +kernel
theorem dX5_named_51 : decode cX5_named 51 = .ok (.aload_n 0, 1) := by decide +kernel
theorem dX5_named_52 : decode cX5_named 52 = .ok (.getfield 117, 3) := by decide +kernel
theorem dX5_named_55 : decode cX5_named 55 = .ok (.iload 4, 2) := by decide +kernel
theorem dX5_named_57 : decode cX5_named 57 = .ok (.aaload, 1) := by decide +kernel
theorem dX5_named_58 : decode cX5_named 58 = .ok (.areturn, 1) := by decide +kernel
theorem dX9_init__0 : decode cX9_init_ 0 = .ok (.aload_n 0, 1) := by decide +kernel
theorem dX9_init__1 : decode cX9_init_ 1 = .ok (.invokespecial 3, 3) := by decide +kernel
theorem dX9_init__4 : decode cX9_init_ 4 = .ok (.aload_n 0, 1) := by decide +kernel
theorem dX9_init__5 : decode cX9_init_ 5 = .ok (.iconst 0, 1) := by decide +kernel
theorem dX9_init__6 : decode cX9_init_ 6 = .ok (.newarray .int, 2) := by decide +kernel
theorem dX9_init__8 : decode cX9_init_ 8 = .ok (.putfield 9, 3) := by decide +kernel
theorem dX9_init__11 : decode cX9_init_ 11 = .ok (.aload_n 0, 1) := by decide +kernel
theorem dX9_init__12 : decode cX9_init_ 12 = .ok (.iconst 0, 1) := by decide +kernel
theorem dX9_init__13 : decode cX9_init_ 13 = .ok (.newarray .int, 2) := by decide +kernel
theorem dX9_init__15 : decode cX9_init_ 15 = .ok (.putfield 15, 3) := by decide +kernel
theorem dX9_init__18 : decode cX9_init_ 18 = .ok (.aload_n 0, 1) := by decide +kernel
theorem dX9_init__19 : decode cX9_init_ 19 = .ok (.iconst 0, 1) := by decide +kernel
theorem dX9_init__20 : decode cX9_init_ 20 = .ok (.anewarray 18, 3) := by decide +kernel
theorem dX9_init__23 : decode cX9_init_ 23 = .ok (.putfield 19, 3) := by decide +kernel
theorem dX9_init__26 : decode cX9_init_ 26 = .ok (.aload_n 0, 1) := by decide +kernel
theorem dX9_init__27 : decode cX9_init_ 27 = .ok (.iconst (-1), 1) := by decide +kernel
theorem dX9_init__28 : decode cX9_init_ 28 = .ok (.putfield 23, 3) := by decide +kernel
theorem dX9_init__31 : decode cX9_init_ 31 = .ok (.aload_n 0, 1) := by decide +kernel
theorem dX9_init__32 : decode cX9_init_ 32 = .ok (.iconst 0, 1) := by decide +kernel
theorem dX9_init__33 : decode cX9_init_ 33 = .ok (.newarray .int, 2) := by decide +kernel
theorem dX9_init__35 : decode cX9_init_ 35 = .ok (.putfield 27, 3) := by decide +kernel
theorem dX9_init__38 : decode cX9_init_ 38 = .ok (.aload_n 0, 1) := by decide +kernel
theorem dX9_init__39 : decode cX9_init_ 39 = .ok (.iconst 0, 1) := by decide +kernel
theorem dX9_init__40 : decode cX9_init_ 40 = .ok (.anewarray 30, 3) := by decide +kernel
theorem dX9_init__43 : decode cX9_init_ 43 = .ok (.putfield 32, 3) := by decide +kernel
theorem dX9_init__46 : decode cX9_init_ 46 = .ok (.aload_n 0, 1) := by decide +kernel
theorem dX9_init__47 : decode cX9_init_ 47 = .ok (.aload_n 1, 1) := by decide +kernel
theorem dX9_init__48 : decode cX9_init_ 48 = .ok (.putfield 36, 3) := by decide +kernel
theorem dX9_init__51 : decode cX9_init_ 51 = .ok (.aload_n 0, 1) := by decide +kernel
theorem dX9_init__52 : decode cX9_init_ 52 = .ok (.aload_n 2, 1) := by decide +kernel
theorem dX9_init__53 : decode cX9_init_ 53 = .ok (.putfield 40, 3) := by decide +kernel
theorem dX9_init__56 : decode cX9_init_ 56 = .ok (.aload_n 0, 1) := by decide +kernel
theorem dX9_init__57 : decode cX9_init_ 57 = .ok (.aload_n 1, 1) := by decide +kernel
theorem dX9_init__58 : decode cX9_init_ 58 = .ok (.getfield 9, 3) := by decide +kernel
theorem dX9_init__61 : decode cX9_init_ 61 = .ok (.putfield 9, 3) := by decide +kernel
theorem dX9_init__64 : decode cX9_init_ 64 = .ok (.aload_n 0, 1) := by decide +kernel
theorem dX9_init__65 : decode cX9_init_ 65 = .ok (.aload_n 1, 1) := by decide +kernel
theorem dX9_init__66 : decode cX9_init_ 66 = .ok (.getfield 15, 3) := by decide +kernel
theorem dX9_init__69 : decode cX9_init_ 69 = .ok (.putfield 15, 3) := by decide +kernel
theorem dX9_init__72 : decode cX9_init_ 72 = .ok (.aload_n 0, 1) := by decide +kernel
theorem dX9_init__73 : decode cX9_init_ 73 = .ok (.aload_n 1, 1) := by decide +kernel
theorem dX9_init__74 : decode cX9_init_ 74 = .ok (.getfield 19, 3) := by decide +kernel
theorem dX9_init__77 : decode cX9_init_ 77 = .ok (.putfield 19, 3) := by decide +kernel
theorem dX9_init__80 : decode cX9_init_ 80 = .ok (.aload_n 0, 1) := by decide +kernel
theorem dX9_init__81 : decode cX9_init_ 81 = .ok (.aload_n 1, 1) := by decide +kernel
theorem dX9_init__82 : decode cX9_init_ 82 = .ok (.getfield 23, 3) := by decide +kernel
theorem dX9_init__85 : decode cX9_init_ 85 = .ok (.putfield 23, 3) := by decide +kernel
theorem dX9_init__88 : decode cX9_init_ 88 = .ok (.aload_n 0, 1) := by decide +kernel
theorem dX9_init__89 : decode cX9_init_ 89 = .ok (.aload_n 1, 1) := by decide +kernel
theorem dX9_init__90 : decode cX9_init_ 90 = .ok (.getfield 27, 3) := by decide +kernel
theorem dX9_init__93 : decode cX9_init_ 93 = .ok (.putfield 27, 3) := by decide +kernel
theorem dX9_init__96 : decode cX9_init_ 96 = .ok (.aload_n 0, 1) := by decide +kernel
theorem dX9_init__97 : decode cX9_init_ 97 = .ok (.aload_n 1, 1) := by decide +kernel
theorem dX9_init__98 : decode cX9_init_ 98 = .ok (.getfield 32, 3) := by decide +kernel
theorem dX9_init__101 : decode cX9_init_ 101 = .ok (.putfield 32, 3) := by decide +kernel
theorem dX9_init__104 : decode cX9_init_ 104 = .ok (.return_, 1) := by decide +kernel
theorem dX9_endProof_0 : decode cX9_endProof 0 = .ok (.aload_n 0, 1) := by decide +kernel
theorem dX9_endProof_1 : decode cX9_endProof 1 = .ok (.iconst (-1), 1) := by decide +kernel
theorem dX9_endProof_2 : decode cX9_endProof 2 = .ok (.putfield 23, 3) := by decide +kernel
theorem dX9_endProof_5 : decode cX9_endProof 5 = .ok (.aload_n 0, 1) := by decide +kernel
theorem dX9_endProof_6 : decode cX9_endProof 6 = .ok (.iconst 0, 1) := by decide +kernel
theorem dX9_endProof_7 : decode cX9_endProof 7 = .ok (.newarray .int, 2) := by decide +kernel
theorem dX9_endProof_9 : decode cX9_endProof 9 = .ok (.putfield 27, 3) := by decide +kernel
theorem dX9_endProof_12 : decode cX9_endProof 12 = .ok (.aload_n 0, 1) := by decide +kernel
theorem dX9_endProof_13 : decode cX9_endProof 13 = .ok (.iconst 0, 1) := by decide +kernel
theorem dX9_endProof_14 : decode cX9_endProof 14 = .ok (.anewarray 30, 3) := by decide +kernel
theorem dX9_endProof_17 : decode cX9_endProof 17 = .ok (.putfield 32, 3) := by decide +kernel
theorem dX9_endProof_20 : decode cX9_endProof 20 = .ok (.return_, 1) := by decide +kernel
def EX9_endProof : List (Nat × Nat) := [(11, 6), (11, 7), (11, 8)]
def EX5_named : List (Nat × Nat) := []
def EX5_namedZ : List (Nat × Nat) := []
set_option maxHeartbeats 4000000 in
set_option maxRecDepth 20000 in
theorem uX9_endProof (l : Launch) (dC : Nat → ClassId) (dI : Nat → Nat → Nat) (ca : Nat → ClassId) (base : Nat) (B : jF) (hB : jBok B) (hAp : jAp (dC, dI)) (hB5 : ∀ n G a H, B 5 n G a H ↔ jOb (dC, dI) 5 4 (F5 n G) a H) (hB11 : ∀ n G a H, B 11 n G a H ↔ jOb (dC, dI) 11 9 (F11 n G) a H) (hB214 : ∀ n G a H, B 214 n G a H ↔ jAq (dC, dI) (ca 7) (jQg) n G a H) (hB280 : ∀ n G a H, B 280 n G a H ↔ jAr (dC, dI) (ca 1) (fun j z => -1 ≤ z.toInt) n a H) (G0 : jT) (H0 : Heap) (r0 : Nat) (LC LS : Nat) : Met l yX9_endProof (jw yX9_endProof cX9_endProof 1 none) ({ frames := 0, cells := LC - H0.size, slots := LS - jTot H0, locals := 0 }) (va_Pc [.ref r0] (fun U => U.heap = H0 ∧ jX B base G0 [] H0 ∧ jG dC dI ca base U ∧ jK2 dC dI ca U ∧ jK6 U ∧ G0 r0 = some (11, 0) ∧ jP (dC, dI) G0 H0 [] ∧ H0.size + 2 ≤ LC ∧ jTot H0 + 0 ≤ LS ∧ True)) (va_Qv (S := jT) (fun u => True) (fun u t => jRa (dC, dI) B base G0 u EX9_endProof H0 (2) (0) [] t.heap ∧ (jNk [0, 1, 2, 3, 4, 5, 6, 7, 8, 9, 10, 11, 12, 13, 14, 15, 16, 17, 175]) G0 u) (jA base)) (LC - H0.size) (LS - jTot H0) (jA base) := by
  refine Met.ofW (cc := cX9_endProof) (maxL := 1) (ret := none) (by decide) rfl ?_
  intro p e s m args below meth c s₁ Bd hml hv
  obtain ⟨rfl, hH0, hX, hG, hK2, hK6, hg_r0, hP0, hLC0, hLS0, hp0⟩ := hv
  have hK := hG.1
  have hx := Bd.exec
  have hb := Bd.bytes
  have hr := Bd.returns
  have hts := atoms_spec (ws := (jw yX9_endProof cX9_endProof 1 none)) Bd.pre
  have htw : ∀ w ∈ jWl, w.before _ s = true := fun w h => hts w (List.mem_cons_of_mem _ h)
  have hown : s.vm.findClass RX9 = some m.cls := findClass_of_methodNamed Bd.named
  have hlocks := Bd.notSynchronized
  obtain ⟨Q, hQ⟩ : ∃ Q, Q = MQ below (va_Qv (S := jT) (fun u => True) (fun u t => jRa (dC, dI) B base G0 u EX9_endProof H0 (2) (0) [] t.heap ∧ (jNk [0, 1, 2, 3, 4, 5, 6, 7, 8, 9, 10, 11, 12, 13, 14, 15, 16, 17, 175]) G0 u) (jA base)) ([.ref r0] : List Value).toArray s (LC - H0.size) (LS - jTot H0) (jA base) := ⟨_, rfl⟩
  rw [← hQ]
  have hl := lv_entry ([.ref r0]) (n := 1) (Nat.le_of_ble_eq_true rfl)
  rw [lg_entry_eq]
  generalize (lg_sl ([.ref r0]) ++ List.replicate (1 - (lg_sl ([.ref r0])).length) Slot.unset).toArray = ls at hl ⊢
  have hl : lv_has ls 1 [(0, .ref r0)] := hl
  generalize hR : (headSpec (jw yX9_endProof cX9_endProof 1 none) ({ frames := 0, cells := LC - H0.size, slots := LS - jTot H0, locals := 0 })).room = R
  subst hH0
  have hh : jSt (dC, dI) B base G0 G0 EX9_endProof s.heap 0 0 [] [] [] s.heap [] := jSt.start hX hP0 jMc.nil jIs.nil
  clear hX hP0
  have hkm1 : ((-1) : Int32).toInt = (-1) := by decide
  have hk0 : (0 : Int32).toInt = 0 := by decide
  have hk1 : (1 : Int32).toInt = 1 := by decide
  have hly_11_6 := htw (u_lay RX9 TX9 6) (jWc_wsX90 _ (u_in_lay (by decide)))
  have hly_11_7 := htw (u_lay RX9 TX9 7) (jWc_wsX90 _ (u_in_lay (by decide)))
  have hly_11_8 := htw (u_lay RX9 TX9 8) (jWc_wsX90 _ (u_in_lay (by decide)))
  have hlk_23 := (htw (.fieldLink RX9 23 "ProofServer$State" "lemma" "I") (jWr_8 _ (List.mem_of_getElem? (i := 21) rfl)))
  have hlk_27 := (htw (.fieldLink RX9 27 "ProofServer$State" "statement" "[I") (jWr_8 _ (List.mem_of_getElem? (i := 22) rfl)))
  have hlk_32 := (htw (.fieldLink RX9 32 "ProofServer$State" "goals" "[LProofServer$Goal;") (jWr_9 _ (List.mem_of_getElem? (i := 0) rfl)))
  have hbs : base ≤ s.heap.size := Nat.le_of_lt (Nat.lt_of_le_of_lt (hh.ab hg_r0).1 (hh.ab hg_r0).2)
  have hRc : R.cells = LC - s.heap.size := by rw [← hR]; rfl
  have hRs : R.slots = LS - jTot s.heap := by rw [← hR]; rfl
  refine lv_aload_n hx hb dX9_endProof_0 rfl (lv_at hl 0 rfl) ?_
  refine lv_iconst (v := (-1)) hx hb dX9_endProof_1 (by decide) ?_
  refine j7_put hx hb hown hK hh hB hAp hB11 (C := RX9) (T := TX9) (N := 9) rfl (by decide) hg_r0 (i := 6) (by decide) hly_11_6 rfl hlk_23 rfl (ty := .int) (v := .int (-1)) (by decide +kernel) rfl rfl (⟨_, rfl⟩) rfl (L1 := []) [] rfl rfl rfl dX9_endProof_2 (fun H_1 locs_1 hh_1 => ?_)
  clear hh
  refine lv_aload_n hx hb dX9_endProof_5 rfl (lv_at hl 0 rfl) ?_
  refine lv_iconst (v := 0) hx hb dX9_endProof_6 (by decide) ?_
  have hsz_2 := hh_1.2.2.2.2.2.1
  have htt_2 := hh_1.2.2.2.2.2.2.1
  refine j7_newiK hx hb hK hh_1 hB (atype := .int) (ty := .int) (htw (.arrayClass .int) (jWr_3 _ (List.mem_of_getElem? (i := 20) rfl))) rfl rfl (fun _ h => h) hB280 1 rfl (by decide) (by decide) hbs (x := 0) (by decide) (by omega) (fun j => by first | trivial | decide | rfl | exact Or.inl rfl | (refine ⟨?_, ?_⟩ <;> decide)) (by rw [hRc]; omega) (by rw [hRs]; omega) dX9_endProof_7 (fun H_2 hfr_2 hh_2 => ?_)
  have hh_2 : jSt (dC, dI) B base G0 (va_up G0 H_1.size (some (280, 0))) EX9_endProof s.heap (0 + 1) (0 + 0) [(r0, 11, 6, .int (-1))] [] [] H_2 locs_1 := hh_2
  have hN_2 : (jNk [0, 1, 2, 3, 4, 5, 6, 7, 8, 9, 10, 11, 12, 13, 14, 15, 16, 17, 175]) G0 (va_up G0 H_1.size (some (280, 0))) := jNk.new (by decide)
  have hgn_2 : (va_up G0 H_1.size (some (280, 0))) H_1.size = some (280, 0) := jUp_self
  have hle_2 : jLe G0 (va_up G0 H_1.size (some (280, 0))) := jLe.new hh_1.2.1.fresh
  have hke_2 : jKe G0 (va_up G0 H_1.size (some (280, 0))) H_1 H_2 := jKe.new hfr_2
  have hsy_2 : s.heap.size ≤ H_1.size := hh_1.1.1
  generalize (va_up G0 H_1.size (some (280, 0))) = G_2 at hN_2 hgn_2 hle_2 hke_2 hh_2
  clear hh_1
  have hNn_2 : (jNk [0, 1, 2, 3, 4, 5, 6, 7, 8, 9, 10, 11, 12, 13, 14, 15, 16, 17, 175]) G0 G_2 := (jNk.rf).tr hN_2
  have hg_3 := hle_2 _ _ hg_r0
  refine j7_put hx hb hown hK hh_2 hB hAp hB11 (C := RX9) (T := TX9) (N := 9) rfl (by decide) hg_3 (i := 7) (by decide) hly_11_7 rfl hlk_27 rfl (ty := (.array .int)) (v := .ref H_1.size) (by decide +kernel) rfl rfl (⟨_, _, rfl, hgn_2, by omega⟩) rfl (L1 := [(r0, 11, 6, .int (-1))]) [0] rfl rfl rfl dX9_endProof_9 (fun H_4 locs_4 hh_4 => ?_)
  clear hh_2
  refine lv_aload_n hx hb dX9_endProof_12 rfl (lv_at hl 0 rfl) ?_
  refine lv_iconst (v := 0) hx hb dX9_endProof_13 (by decide) ?_
  have hsz_5 := hh_4.2.2.2.2.2.1
  have htt_5 := hh_4.2.2.2.2.2.2.1
  have hsy_5 : s.heap.size ≤ H_4.size := hh_4.1.1
  refine j7_newq0 hx hb hown (htw (.classLink RX9 30 RX3) (jWr_8 _ (List.mem_of_getElem? (i := 23) rfl))) hK6.2.2.2 hK2 hh_4 hB hB214 3 rfl (by decide) hbs (by decide) (by rw [hRc]; omega) (by rw [hRs]; omega) dX9_endProof_14 (fun H_5 hfr_5 hh_5 => ?_)
  have hh_5 : jSt (dC, dI) B base G0 (va_up G_2 H_4.size (some (214, 0))) EX9_endProof s.heap ((0 + 1) + 1) ((0 + 0) + 0) [(r0, 11, 7, .ref H_1.size), (r0, 11, 6, .int (-1))] [] [] H_5 locs_4 := hh_5
  have hN_5 : (jNk [0, 1, 2, 3, 4, 5, 6, 7, 8, 9, 10, 11, 12, 13, 14, 15, 16, 17, 175]) G_2 (va_up G_2 H_4.size (some (214, 0))) := jNk.new (by decide)
  have hgn_5 : (va_up G_2 H_4.size (some (214, 0))) H_4.size = some (214, 0) := jUp_self
  have hle_5 : jLe G_2 (va_up G_2 H_4.size (some (214, 0))) := jLe.new hh_4.2.1.fresh
  have hke_5 : jKe G_2 (va_up G_2 H_4.size (some (214, 0))) H_4 H_5 := jKe.new hfr_5
  have hsy_5 : s.heap.size ≤ H_4.size := hh_4.1.1
  generalize (va_up G_2 H_4.size (some (214, 0))) = G_5 at hN_5 hgn_5 hle_5 hke_5 hh_5
  clear hh_4
  have hNn_5 : (jNk [0, 1, 2, 3, 4, 5, 6, 7, 8, 9, 10, 11, 12, 13, 14, 15, 16, 17, 175]) G0 G_5 := (hNn_2).tr hN_5
  have hg_6 := hle_5 _ _ hg_3
  have hg_7 := hle_5 _ _ hgn_2
  refine j7_put hx hb hown hK hh_5 hB hAp hB11 (C := RX9) (T := TX9) (N := 9) rfl (by decide) hg_6 (i := 8) (by decide) hly_11_8 rfl hlk_32 rfl (ty := (.array (.object "ProofServer$Goal"))) (v := .ref H_4.size) (by decide +kernel) rfl rfl (⟨_, _, rfl, hgn_5, by omega⟩) rfl (L1 := [(r0, 11, 7, .ref H_1.size), (r0, 11, 6, .int (-1))]) [0, 1] rfl rfl rfl dX9_endProof_17 (fun H_8 locs_8 hh_8 => ?_)
  clear hh_5
  have hsz_9 := hh_8.2.2.2.2.2.1
  have htt_9 := hh_8.2.2.2.2.2.2.1
  refine W.room (fun hrc_9 hrs_9 => ?_)
  refine W.widen (k := LC - s.heap.size) (n := LS - jTot s.heap) (by omega) (by omega) ?_
  rw [hQ]
  exact W.vret hx hb hr (fun t ht hW => ⟨⟨G_5, rfl, trivial, ⟨hh_8.ra (by first | omega | (simp only; omega)) (by first | omega | (simp only; omega)) (M1 := []) [] rfl ht, hNn_5⟩⟩, by rw [ht]; try exact hh_8.1.1, fun q h9 hq => by rw [ht]; try exact hh_8.1.2.1 q h9 hq⟩) hh_8.1.2.2 dX9_endProof_20
set_option maxHeartbeats 4000000 in
set_option maxRecDepth 20000 in
theorem uX5_named (l : Launch) (dC : Nat → ClassId) (dI : Nat → Nat → Nat) (ca : Nat → ClassId) (base : Nat) (B : jF) (hB : jBok B) (hAp : jAp (dC, dI)) (hB5 : ∀ n G a H, B 5 n G a H ↔ jOb (dC, dI) 5 4 (F5 n G) a H) (hB11 : ∀ n G a H, B 11 n G a H ↔ jOb (dC, dI) 11 9 (F11 n G) a H) (hB101 : ∀ n G a H, B 101 n G a H ↔ jAr (dC, dI) (ca 1) (fun j z => True) n a H) (hB280 : ∀ n G a H, B 280 n G a H ↔ jAr (dC, dI) (ca 1) (fun j z => -1 ≤ z.toInt) n a H) (hB313 : ∀ n G a H, B 313 n G a H ↔ jAq (dC, dI) (ca 8) (jQk 280 80) n G a H) (G0 : jT) (H0 : Heap) (r0 : Nat) (r1 : Nat) (a2 : Int32) (n1 : Nat) : Met l yX5_named (jw yX5_named cX5_named 5 (some (.array .int))) ({ frames := 1, cells := 0, slots := 0, locals := 22 }) (va_Pc [.ref r0, .ref r1, .int a2] (fun U => U.heap = H0 ∧ jX B base G0 [] H0 ∧ jG dC dI ca base U ∧ jK5 dC dI ca U ∧ G0 r0 = some (11, 0) ∧ G0 r1 = some (5, n1) ∧ jP (dC, dI) G0 H0 [] ∧ jIs (dC, dI) G0 H0 [(jFs11, jSef dC dI G0)] ∧ n1 % 10 = 1)) (jQx (S := Unit) (fun v u => jRm G0 280 80 v) (fun u t => (jRt (dC, dI) B base G0 EX5_named H0 [] t.heap) ∧ jIs (dC, dI) G0 t.heap [(jFs11, jSef dC dI G0)]) (jA base)) 0 0 (jA base) := by
  refine Met.ofW (cc := cX5_named) (maxL := 5) (ret := (some (.array .int))) (by decide) rfl ?_
  intro p e s m args below meth c s₁ Bd hml hv
  obtain ⟨rfl, hH0, hX, hG, hK5, hg_r0, hg_r1, hP0, hI0, hp0⟩ := hv
  have hK := hG.1
  have hx := Bd.exec
  have hb := Bd.bytes
  have hr := Bd.returns
  have hts := atoms_spec (ws := (jw yX5_named cX5_named 5 (some (.array .int)))) Bd.pre
  have htw : ∀ w ∈ jWl, w.before _ s = true := fun w h => hts w (List.mem_cons_of_mem _ h)
  have hown : s.vm.findClass RX5 = some m.cls := findClass_of_methodNamed Bd.named
  have hlocks := Bd.notSynchronized
  obtain ⟨Q, hQ⟩ : ∃ Q, Q = MQ below (jQx (S := Unit) (fun v u => jRm G0 280 80 v) (fun u t => (jRt (dC, dI) B base G0 EX5_named H0 [] t.heap) ∧ jIs (dC, dI) G0 t.heap [(jFs11, jSef dC dI G0)]) (jA base)) ([.ref r0, .ref r1, .int a2] : List Value).toArray s 0 0 (jA base) := ⟨_, rfl⟩
  rw [← hQ]
  have hl := lv_entry ([.ref r0, .ref r1, .int a2]) (n := 5) (Nat.le_of_ble_eq_true rfl)
  rw [lg_entry_eq]
  generalize (lg_sl ([.ref r0, .ref r1, .int a2]) ++ List.replicate (5 - (lg_sl ([.ref r0, .ref r1, .int a2])).length) Slot.unset).toArray = ls at hl ⊢
  have hl : lv_has ls 5 [(0, .ref r0), (1, .ref r1), (2, .int a2)] := hl
  generalize hR : (headSpec (jw yX5_named cX5_named 5 (some (.array .int))) ({ frames := 1, cells := 0, slots := 0, locals := 22 })).room = R
  subst hH0
  have hh : jSt (dC, dI) B base G0 G0 EX5_named s.heap 0 0 [] [] [(jFs11, jSef dC dI G0)] s.heap [] := jSt.start hX hP0 jMc.nil hI0
  clear hX hP0
  have hkm1 : ((-1) : Int32).toInt = (-1) := by decide
  have hk0 : (0 : Int32).toInt = 0 := by decide
  have hk1 : (1 : Int32).toInt = 1 := by decide
  have hly_5_1 := htw (u_lay RX3 TX3 1) (jWc_wsX30 _ (u_in_lay (by decide)))
  have hly_5_2 := htw (u_lay RX3 TX3 2) (jWc_wsX30 _ (u_in_lay (by decide)))
  have hly_11_4 := htw (u_lay RX9 TX9 4) (jWc_wsX90 _ (u_in_lay (by decide)))
  have hly_11_5 := htw (u_lay RX9 TX9 5) (jWc_wsX90 _ (u_in_lay (by decide)))
  have hlk_164 := (htw (.fieldLink RX5 164 "ProofServer$Goal" "names" "[I") (jWr_81 _ (List.mem_of_getElem? (i := 16) rfl)))
  have hlk_180 := (htw (.fieldLink RX5 180 "ProofServer$Goal" "hypotheses" "[[I") (jWr_84 _ (List.mem_of_getElem? (i := 10) rfl)))
  have hlk_174 := (htw (.fieldLink RX5 174 "ProofServer$State" "factNames" "[I") (jWr_81 _ (List.mem_of_getElem? (i := 14) rfl)))
  have hlk_117 := (htw (.fieldLink RX5 117 "ProofServer$State" "facts" "[[I") (jWr_82 _ (List.mem_of_getElem? (i := 6) rfl)))
  have hrg_a2 := jb_rng a2
  obtain ⟨v_1, hv_1, hh_2⟩ := hh.pin (C := RX3) (T := TX3) (N := 4) hB5 rfl (by decide) hg_r1 (i := 2) (by decide) rfl
  obtain ⟨hypotheses_3, khypotheses_3, rfl, hg_hypotheses_3, hhahypotheses_3, hhbhypotheses_3, hhchypotheses_3, hhdhypotheses_3, hhehypotheses_3⟩ := hv_1
  obtain rfl : khypotheses_3 = 313 := hhbhypotheses_3 (by omega)
  refine lv_aload_n hx hb dX5_named_0 rfl (lv_at hl 1 rfl) ?_
  refine lv_ifnonnull (tgt := 8) hx hb dX5_named_1 (by decide) ?_
  refine lv_aload_n hx hb dX5_named_8 rfl (lv_at hl 1 rfl) ?_
  obtain ⟨v_4, hv_4, hh_5⟩ := hh_2.pin (C := RX3) (T := TX3) (N := 4) hB5 rfl (by decide) hg_r1 (i := 1) (by decide) rfl
  clear hh_2
  obtain ⟨names_6, rfl, hg_names_6⟩ := hv_4
  refine j7_read hx hb hown hK (C := RX3) (T := TX3) (N := 4) rfl hly_5_1 hlk_164 (hh_5.at 0 rfl) dX5_named_9 ?_
  refine lv_iload_n hx hb dX5_named_12 rfl (lv_at hl 2 rfl) ?_
  refine va_calli (A0 := jA base) (H0 := s.heap) (va_runS (As := [.ref names_6, .int a2]) (rest := []) ⟨hx, hb, hml, hown, hts⟩ (uX9_find l dC dI ca base B hB hAp hB101 G0 s.heap names_6 a2 (n1 / 10)) (va_cwS 2 hts (jgS (jWr_81 _ (List.mem_of_getElem? (i := 18) rfl)) (jWr_30 _ (List.mem_of_getElem? (i := 20) rfl)) (jWr_4 _ (List.mem_of_getElem? (i := 18) rfl)) (jWr_30 _ (List.mem_of_getElem? (i := 21) rfl))) rfl rfl rfl (by decide +kernel) ⟨by rw [← hR]; exact Nat.le_of_ble_eq_true rfl, by rw [← hR]; exact Nat.le_of_ble_eq_true rfl⟩) ⟨fun a U g mk q => by obtain ⟨q0, q1, q2, qK, q10, q11, q12⟩ := q; exact ⟨q0, q1, q2, jG.calling g mk a qK, q10, q11, q12⟩, fun U hU hW => ⟨rfl, hU, hh_5.2.1, hG.step hW hU hh_5.1, hg_names_6, jP.nil, by first | omega | rfl | assumption | decide | exact Or.inl rfl | exact Or.inr rfl | (simp only; omega)⟩⟩ rfl rfl hl.1 rfl (lv_room (Nat.le_of_ble_eq_true rfl)) dX5_named_13 ⟨Nat.zero_le _, Nat.zero_le _⟩) hh_5.1 (fun q _ h => h) (fun q h => h) (fun r_8 u_7 t_7 H_7 locs_7 ht_7 hvm_7 hr_8 hb_7 hz_7 hk_7 hS_7 => ?_)
  rw [ht_7] at hb_7
  obtain ⟨hb_71, hb_72, hb_73, hb_74, hb_75⟩ := hb_7
  have hh_7 : jSt (dC, dI) B base G0 G0 EX5_named s.heap 0 0 [(r1, 5, 1, .ref names_6), (r1, 5, 2, .ref hypotheses_3)] [] [(jFs11, jSef dC dI G0)] H_7 locs_7 := ((hh_5.call hb_71 hb_72 hb_73 hb_74 hS_7 rfl (L1 := [(r1, 5, 1, .ref names_6), (r1, 5, 2, .ref hypotheses_3)]) [0, 1] rfl rfl (M1 := []) [] rfl rfl (I1 := [(jFs11, jSef dC dI G0)]) [0] rfl rfl).more hb_75)
  clear hh_5 ht_7 hvm_7 hz_7 hk_7 hS_7 hb_71 hb_72 hb_73 hb_74 hb_75
  obtain ⟨hr_8_0, hr_8_1⟩ := hr_8
  refine lv_istore_n (lv' := [(3, .int r_8), (0, .ref r0), (1, .ref r1), (2, .int a2)]) hx hb dX5_named_16 rfl hl (by decide) rfl (fun ls hl => ?_)
  refine lv_aload_n hx hb dX5_named_17 rfl (lv_at hl 2 rfl) ?_
  refine lv_ifnull hx hb dX5_named_18 ?_
  refine lv_iload_n hx hb dX5_named_21 rfl (lv_at hl 0 rfl) ?_
  refine lv_if_lt (tgt := 32) hx hb dX5_named_22 (by decide) (fun c_9 => ?_) (fun c_9 => ?_)
  · skip
    have c_9' : r_8.toInt < 0 := jb_lt (rfl) ((by decide)) c_9
    obtain ⟨sx_10, sy_10, sm_10, hs1_10, hs2_10, hg_sx_10, hg_sy_10, hsm_10⟩ := (hh_7.iv 0 rfl) _ hg_r0
    have hh_11 := hh_7.more (P1 := [(r0, 11, 4, .ref sx_10), (r0, 11, 5, .ref sy_10)]) (jP.cons hg_r0 hs1_10 (jP.cons hg_r0 hs2_10 jP.nil))
    clear hh_7 hs1_10 hs2_10
    refine lv_aload_n hx hb dX5_named_32 rfl (lv_at hl 1 rfl) ?_
    refine j7_read hx hb hown hK (C := RX9) (T := TX9) (N := 9) rfl hly_11_4 hlk_174 (hh_11.at 0 rfl) dX5_named_33 ?_
    refine lv_iload_n hx hb dX5_named_36 rfl (lv_at hl 3 rfl) ?_
    refine va_calli (A0 := jA base) (H0 := s.heap) (va_runS (As := [.ref sx_10, .int a2]) (rest := []) ⟨hx, hb, hml, hown, hts⟩ (uX9_find l dC dI ca base B hB hAp hB101 G0 H_7 sx_10 a2 sm_10) (va_cwS 2 hts (jgS (jWr_81 _ (List.mem_of_getElem? (i := 18) rfl)) (jWr_30 _ (List.mem_of_getElem? (i := 20) rfl)) (jWr_4 _ (List.mem_of_getElem? (i := 18) rfl)) (jWr_30 _ (List.mem_of_getElem? (i := 21) rfl))) rfl rfl rfl (by decide +kernel) ⟨by rw [← hR]; exact Nat.le_of_ble_eq_true rfl, by rw [← hR]; exact Nat.le_of_ble_eq_true rfl⟩) ⟨fun a U g mk q => by obtain ⟨q0, q1, q2, qK, q10, q11, q12⟩ := q; exact ⟨q0, q1, q2, jG.calling g mk a qK, q10, q11, q12⟩, fun U hU hW => ⟨rfl, hU, hh_11.2.1, hG.step hW hU hh_11.1, hg_sx_10, jP.nil, by first | omega | rfl | assumption | decide | exact Or.inl rfl | exact Or.inr rfl | (simp only; omega)⟩⟩ rfl rfl hl.1 rfl (lv_room (Nat.le_of_ble_eq_true rfl)) dX5_named_37 ⟨Nat.zero_le _, Nat.zero_le _⟩) hh_11.1 (fun q _ h => h) (fun q h => h) (fun r_13 u_12 t_12 H_12 locs_12 ht_12 hvm_12 hr_13 hb_12 hz_12 hk_12 hS_12 => ?_)
    rw [ht_12] at hb_12
    obtain ⟨hb_121, hb_122, hb_123, hb_124, hb_125⟩ := hb_12
    have hh_12 : jSt (dC, dI) B base G0 G0 EX5_named s.heap 0 0 [(r0, 11, 4, .ref sx_10), (r0, 11, 5, .ref sy_10), (r1, 5, 1, .ref names_6), (r1, 5, 2, .ref hypotheses_3)] [] [(jFs11, jSef dC dI G0)] H_12 locs_12 := ((hh_11.call hb_121 hb_122 hb_123 hb_124 hS_12 rfl (L1 := [(r0, 11, 4, .ref sx_10), (r0, 11, 5, .ref sy_10), (r1, 5, 1, .ref names_6), (r1, 5, 2, .ref hypotheses_3)]) [0, 1, 2, 3] rfl rfl (M1 := []) [] rfl rfl (I1 := [(jFs11, jSef dC dI G0)]) [0] rfl rfl).more hb_125)
    clear hh_11 ht_12 hvm_12 hz_12 hk_12 hS_12 hb_121 hb_122 hb_123 hb_124 hb_125
    obtain ⟨hr_13_0, hr_13_1⟩ := hr_13
    refine lv_istore (lv' := [(4, .int r_13), (3, .int r_8), (0, .ref r0), (1, .ref r1), (2, .int a2)]) hx hb dX5_named_40 hl (by decide) rfl (fun ls hl => ?_)
    refine lv_iload hx hb dX5_named_42 (lv_at hl 0 rfl) ?_
    refine lv_if_ge (tgt := 51) hx hb dX5_named_44 (by decide) (fun c_14 => ?_) (fun c_14 => ?_)
    · skip
      have c_14' : r_13.toInt ≥ 0 := jb_ge (rfl) ((by decide)) c_14
      refine lv_aload_n hx hb dX5_named_51 rfl (lv_at hl 2 rfl) ?_
      refine j7_read hx hb hown hK (C := RX9) (T := TX9) (N := 9) rfl hly_11_5 hlk_117 (hh_12.at 1 rfl) dX5_named_52 ?_
      refine lv_iload hx hb dX5_named_55 (lv_at hl 0 rfl) ?_
      refine j7_qaldA hx hb hK5 hh_12 hB313 (by decide) hg_sy_10 (x := r_13.toInt) (rfl) (by omega) dX5_named_57 (fun o_15 ho_15 => ?_)
      obtain ⟨el_16, nel_16, rfl, hg_el_16, hn_el_16⟩ := ho_15
      simp only [va_rf]
      rw [hQ]
      exact W.aret (v := .ref el_16) hx hb hr (Or.inr ⟨_, rfl⟩) (Or.inr ⟨_, rfl⟩) (fun t ht hW => ⟨⟨.ref el_16, (), rfl, Or.inr ⟨_, _, rfl, hg_el_16, by omega⟩, ⟨hh_12.rt (M1 := []) [] rfl ht, by rw [ht]; exact hh_12.2.2.2.2.2.2.2.2.sub (L1 := [(jFs11, jSef dC dI G0)]) [0] rfl⟩⟩, by rw [ht]; try exact hh_12.1.1, fun q h9 hq => by rw [ht]; try exact hh_12.1.2.1 q h9 hq⟩) hh_12.1.2.2 dX5_named_58
    · skip
      have c_14' : r_13.toInt < 0 := jb_ge_n (rfl) ((by decide)) c_14
      refine lv_null hx hb dX5_named_47 ?_
      refine lv_goto (tgt := 58) hx hb dX5_named_48 (by decide) ?_
      rw [hQ]
      exact W.aret (v := .null) hx hb hr (Or.inr ⟨_, rfl⟩) (Or.inl rfl) (fun t ht hW => ⟨⟨.null, (), rfl, Or.inl rfl, ⟨hh_12.rt (M1 := []) [] rfl ht, by rw [ht]; exact hh_12.2.2.2.2.2.2.2.2.sub (L1 := [(jFs11, jSef dC dI G0)]) [0] rfl⟩⟩, by rw [ht]; try exact hh_12.1.1, fun q h9 hq => by rw [ht]; try exact hh_12.1.2.1 q h9 hq⟩) hh_12.1.2.2 dX5_named_58
  · skip
    have c_9' : r_8.toInt ≥ 0 := jb_lt_n (rfl) ((by decide)) c_9
    refine lv_aload_n hx hb dX5_named_25 rfl (lv_at hl 2 rfl) ?_
    refine j7_read hx hb hown hK (C := RX3) (T := TX3) (N := 4) rfl hly_5_2 hlk_180 (hh_7.at 1 rfl) dX5_named_26 ?_
    refine lv_iload_n hx hb dX5_named_29 rfl (lv_at hl 0 rfl) ?_
    refine j7_qaldA hx hb hK5 hh_7 hB313 (by decide) hg_hypotheses_3 (x := r_8.toInt) (rfl) (by omega) dX5_named_30 (fun o_17 ho_17 => ?_)
    obtain ⟨el_18, nel_18, rfl, hg_el_18, hn_el_18⟩ := ho_17
    simp only [va_rf]
    rw [hQ]
    exact W.aret (v := .ref el_18) hx hb hr (Or.inr ⟨_, rfl⟩) (Or.inr ⟨_, rfl⟩) (fun t ht hW => ⟨⟨.ref el_18, (), rfl, Or.inr ⟨_, _, rfl, hg_el_18, by omega⟩, ⟨hh_7.rt (M1 := []) [] rfl ht, by rw [ht]; exact hh_7.2.2.2.2.2.2.2.2.sub (L1 := [(jFs11, jSef dC dI G0)]) [0] rfl⟩⟩, by rw [ht]; try exact hh_7.1.1, fun q h9 hq => by rw [ht]; try exact hh_7.1.2.1 q h9 hq⟩) hh_7.1.2.2 dX5_named_31
set_option maxHeartbeats 4000000 in
set_option maxRecDepth 20000 in
theorem uX5_namedZ (l : Launch) (dC : Nat → ClassId) (dI : Nat → Nat → Nat) (ca : Nat → ClassId) (base : Nat) (B : jF) (hB : jBok B) (hAp : jAp (dC, dI)) (hB5 : ∀ n G a H, B 5 n G a H ↔ jOb (dC, dI) 5 4 (F5 n G) a H) (hB11 : ∀ n G a H, B 11 n G a H ↔ jOb (dC, dI) 11 9 (F11 n G) a H) (hB101 : ∀ n G a H, B 101 n G a H ↔ jAr (dC, dI) (ca 1) (fun j z => True) n a H) (hB280 : ∀ n G a H, B 280 n G a H ↔ jAr (dC, dI) (ca 1) (fun j z => -1 ≤ z.toInt) n a H) (hB313 : ∀ n G a H, B 313 n G a H ↔ jAq (dC, dI) (ca 8) (jQk 280 80) n G a H) (G0 : jT) (H0 : Heap) (r0 : Nat) (a2 : Int32) : Met l yX5_named (jw yX5_named cX5_named 5 (some (.array .int))) ({ frames := 1, cells := 0, slots := 0, locals := 22 }) (va_Pc [.ref r0, .null, .int a2] (fun U => U.heap = H0 ∧ jX B base G0 [] H0 ∧ jG dC dI ca base U ∧ jK5 dC dI ca U ∧ G0 r0 = some (11, 0) ∧ jP (dC, dI) G0 H0 [] ∧ jIs (dC, dI) G0 H0 [(jFs11, jSef dC dI G0)] ∧ True)) (jQx (S := Unit) (fun v u => jRm G0 280 80 v) (fun u t => (jRt (dC, dI) B base G0 EX5_namedZ H0 [] t.heap) ∧ jIs (dC, dI) G0 t.heap [(jFs11, jSef dC dI G0)]) (jA base)) 0 0 (jA base) := by
  refine Met.ofW (cc := cX5_named) (maxL := 5) (ret := (some (.array .int))) (by decide) rfl ?_
  intro p e s m args below meth c s₁ Bd hml hv
  obtain ⟨rfl, hH0, hX, hG, hK5, hg_r0, hP0, hI0, hp0⟩ := hv
  have hK := hG.1
  have hx := Bd.exec
  have hb := Bd.bytes
  have hr := Bd.returns
  have hts := atoms_spec (ws := (jw yX5_named cX5_named 5 (some (.array .int)))) Bd.pre
  have htw : ∀ w ∈ jWl, w.before _ s = true := fun w h => hts w (List.mem_cons_of_mem _ h)
  have hown : s.vm.findClass RX5 = some m.cls := findClass_of_methodNamed Bd.named
  have hlocks := Bd.notSynchronized
  obtain ⟨Q, hQ⟩ : ∃ Q, Q = MQ below (jQx (S := Unit) (fun v u => jRm G0 280 80 v) (fun u t => (jRt (dC, dI) B base G0 EX5_namedZ H0 [] t.heap) ∧ jIs (dC, dI) G0 t.heap [(jFs11, jSef dC dI G0)]) (jA base)) ([.ref r0, .null, .int a2] : List Value).toArray s 0 0 (jA base) := ⟨_, rfl⟩
  rw [← hQ]
  have hl := lv_entry ([.ref r0, .null, .int a2]) (n := 5) (Nat.le_of_ble_eq_true rfl)
  rw [lg_entry_eq]
  generalize (lg_sl ([.ref r0, .null, .int a2]) ++ List.replicate (5 - (lg_sl ([.ref r0, .null, .int a2])).length) Slot.unset).toArray = ls at hl ⊢
  have hl : lv_has ls 5 [(0, .ref r0), (1, .null), (2, .int a2)] := hl
  generalize hR : (headSpec (jw yX5_named cX5_named 5 (some (.array .int))) ({ frames := 1, cells := 0, slots := 0, locals := 22 })).room = R
  subst hH0
  have hh : jSt (dC, dI) B base G0 G0 EX5_namedZ s.heap 0 0 [] [] [(jFs11, jSef dC dI G0)] s.heap [] := jSt.start hX hP0 jMc.nil hI0
  clear hX hP0
  have hkm1 : ((-1) : Int32).toInt = (-1) := by decide
  have hk0 : (0 : Int32).toInt = 0 := by decide
  have hk1 : (1 : Int32).toInt = 1 := by decide
  have hly_5_1 := htw (u_lay RX3 TX3 1) (jWc_wsX30 _ (u_in_lay (by decide)))
  have hly_5_2 := htw (u_lay RX3 TX3 2) (jWc_wsX30 _ (u_in_lay (by decide)))
  have hly_11_4 := htw (u_lay RX9 TX9 4) (jWc_wsX90 _ (u_in_lay (by decide)))
  have hly_11_5 := htw (u_lay RX9 TX9 5) (jWc_wsX90 _ (u_in_lay (by decide)))
  have hlk_164 := (htw (.fieldLink RX5 164 "ProofServer$Goal" "names" "[I") (jWr_81 _ (List.mem_of_getElem? (i := 16) rfl)))
  have hlk_180 := (htw (.fieldLink RX5 180 "ProofServer$Goal" "hypotheses" "[[I") (jWr_84 _ (List.mem_of_getElem? (i := 10) rfl)))
  have hlk_174 := (htw (.fieldLink RX5 174 "ProofServer$State" "factNames" "[I") (jWr_81 _ (List.mem_of_getElem? (i := 14) rfl)))
  have hlk_117 := (htw (.fieldLink RX5 117 "ProofServer$State" "facts" "[[I") (jWr_82 _ (List.mem_of_getElem? (i := 6) rfl)))
  have hrg_a2 := jb_rng a2
  refine j7_nld_n hx hb dX5_named_0 rfl (lv_at hl 1 rfl) ?_
  refine lv_ifnonnullN hx hb dX5_named_1 ?_
  refine lv_iconst (v := (-1)) hx hb dX5_named_4 (by decide) ?_
  refine lv_goto (tgt := 16) hx hb dX5_named_5 (by decide) ?_
  refine lv_istore_n (lv' := [(3, .int (-1)), (0, .ref r0), (1, .null), (2, .int a2)]) hx hb dX5_named_16 rfl hl (by decide) rfl (fun ls hl => ?_)
  refine j7_nld_n hx hb dX5_named_17 rfl (lv_at hl 2 rfl) ?_
  refine lv_ifnullN (tgt := 32) hx hb dX5_named_18 (by decide) ?_
  obtain ⟨sx_1, sy_1, sm_1, hs1_1, hs2_1, hg_sx_1, hg_sy_1, hsm_1⟩ := (hh.iv 0 rfl) _ hg_r0
  have hh_2 := hh.more (P1 := [(r0, 11, 4, .ref sx_1), (r0, 11, 5, .ref sy_1)]) (jP.cons hg_r0 hs1_1 (jP.cons hg_r0 hs2_1 jP.nil))
  clear hh hs1_1 hs2_1
  refine lv_aload_n hx hb dX5_named_32 rfl (lv_at hl 1 rfl) ?_
  refine j7_read hx hb hown hK (C := RX9) (T := TX9) (N := 9) rfl hly_11_4 hlk_174 (hh_2.at 0 rfl) dX5_named_33 ?_
  refine lv_iload_n hx hb dX5_named_36 rfl (lv_at hl 3 rfl) ?_
  refine va_calli (A0 := jA base) (H0 := s.heap) (va_runS (As := [.ref sx_1, .int a2]) (rest := []) ⟨hx, hb, hml, hown, hts⟩ (uX9_find l dC dI ca base B hB hAp hB101 G0 s.heap sx_1 a2 sm_1) (va_cwS 2 hts (jgS (jWr_81 _ (List.mem_of_getElem? (i := 18) rfl)) (jWr_30 _ (List.mem_of_getElem? (i := 20) rfl)) (jWr_4 _ (List.mem_of_getElem? (i := 18) rfl)) (jWr_30 _ (List.mem_of_getElem? (i := 21) rfl))) rfl rfl rfl (by decide +kernel) ⟨by rw [← hR]; exact Nat.le_of_ble_eq_true rfl, by rw [← hR]; exact Nat.le_of_ble_eq_true rfl⟩) ⟨fun a U g mk q => by obtain ⟨q0, q1, q2, qK, q10, q11, q12⟩ := q; exact ⟨q0, q1, q2, jG.calling g mk a qK, q10, q11, q12⟩, fun U hU hW => ⟨rfl, hU, hh_2.2.1, hG.step hW hU hh_2.1, hg_sx_1, jP.nil, by first | omega | rfl | assumption | decide | exact Or.inl rfl | exact Or.inr rfl | (simp only; omega)⟩⟩ rfl rfl hl.1 rfl (lv_room (Nat.le_of_ble_eq_true rfl)) dX5_named_37 ⟨Nat.zero_le _, Nat.zero_le _⟩) hh_2.1 (fun q _ h => h) (fun q h => h) (fun r_4 u_3 t_3 H_3 locs_3 ht_3 hvm_3 hr_4 hb_3 hz_3 hk_3 hS_3 => ?_)
  rw [ht_3] at hb_3
  obtain ⟨hb_31, hb_32, hb_33, hb_34, hb_35⟩ := hb_3
  have hh_3 : jSt (dC, dI) B base G0 G0 EX5_namedZ s.heap 0 0 [(r0, 11, 4, .ref sx_1), (r0, 11, 5, .ref sy_1)] [] [(jFs11, jSef dC dI G0)] H_3 locs_3 := ((hh_2.call hb_31 hb_32 hb_33 hb_34 hS_3 rfl (L1 := [(r0, 11, 4, .ref sx_1), (r0, 11, 5, .ref sy_1)]) [0, 1] rfl rfl (M1 := []) [] rfl rfl (I1 := [(jFs11, jSef dC dI G0)]) [0] rfl rfl).more hb_35)
  clear hh_2 ht_3 hvm_3 hz_3 hk_3 hS_3 hb_31 hb_32 hb_33 hb_34 hb_35
  obtain ⟨hr_4_0, hr_4_1⟩ := hr_4
  refine lv_istore (lv' := [(4, .int r_4), (3, .int (-1)), (0, .ref r0), (1, .null), (2, .int a2)]) hx hb dX5_named_40 hl (by decide) rfl (fun ls hl => ?_)
  refine lv_iload hx hb dX5_named_42 (lv_at hl 0 rfl) ?_
  refine lv_if_ge (tgt := 51) hx hb dX5_named_44 (by decide) (fun c_5 => ?_) (fun c_5 => ?_)
  · skip
    have c_5' : r_4.toInt ≥ 0 := jb_ge (rfl) ((by decide)) c_5
    refine lv_aload_n hx hb dX5_named_51 rfl (lv_at hl 2 rfl) ?_
    refine j7_read hx hb hown hK (C := RX9) (T := TX9) (N := 9) rfl hly_11_5 hlk_117 (hh_3.at 1 rfl) dX5_named_52 ?_
    refine lv_iload hx hb dX5_named_55 (lv_at hl 0 rfl) ?_
    refine j7_qaldA hx hb hK5 hh_3 hB313 (by decide) hg_sy_1 (x := r_4.toInt) (rfl) (by omega) dX5_named_57 (fun o_6 ho_6 => ?_)
    obtain ⟨el_7, nel_7, rfl, hg_el_7, hn_el_7⟩ := ho_6
    simp only [va_rf]
    rw [hQ]
    exact W.aret (v := .ref el_7) hx hb hr (Or.inr ⟨_, rfl⟩) (Or.inr ⟨_, rfl⟩) (fun t ht hW => ⟨⟨.ref el_7, (), rfl, Or.inr ⟨_, _, rfl, hg_el_7, by omega⟩, ⟨hh_3.rt (M1 := []) [] rfl ht, by rw [ht]; exact hh_3.2.2.2.2.2.2.2.2.sub (L1 := [(jFs11, jSef dC dI G0)]) [0] rfl⟩⟩, by rw [ht]; try exact hh_3.1.1, fun q h9 hq => by rw [ht]; try exact hh_3.1.2.1 q h9 hq⟩) hh_3.1.2.2 dX5_named_58
  · skip
    have c_5' : r_4.toInt < 0 := jb_ge_n (rfl) ((by decide)) c_5
    refine lv_null hx hb dX5_named_47 ?_
    refine lv_goto (tgt := 58) hx hb dX5_named_48 (by decide) ?_
    rw [hQ]
    exact W.aret (v := .null) hx hb hr (Or.inr ⟨_, rfl⟩) (Or.inl rfl) (fun t ht hW => ⟨⟨.null, (), rfl, Or.inl rfl, ⟨hh_3.rt (M1 := []) [] rfl ht, by rw [ht]; exact hh_3.2.2.2.2.2.2.2.2.sub (L1 := [(jFs11, jSef dC dI G0)]) [0] rfl⟩⟩, by rw [ht]; try exact hh_3.1.1, fun q h9 hq => by rw [ht]; try exact hh_3.1.2.1 q h9 hq⟩) hh_3.1.2.2 dX5_named_58
end
