section
def EJx4a65c_fastRemove_b59b0L1 : List (Nat × Nat) := [(1, 0), (1, 2), (221, 0)]
def EJx4a65c_remove_915e3L1 : List (Nat × Nat) := [(1, 0), (1, 2), (221, 0)]
set_option maxHeartbeats 4000000 in
set_option maxRecDepth 20000 in
theorem uJx4a65c_fastRemove_b59b0L1 (l : Launch) (dC : Nat → ClassId) (dI : Nat → Nat → Nat) (ca : Nat → ClassId) (base : Nat) (B : jF) (hB : jBok B) (hAp : jAp (dC, dI)) (hB1 : ∀ n G a H, B 1 n G a H ↔ jOb (dC, dI) 1 3 (F1 n G) a H) (hB3 : ∀ n G a H, B 3 n G a H ↔ jOb (dC, dI) 3 17 (F3 n G) a H) (hB221 : ∀ n G a H, B 221 n G a H ↔ jAq (dC, dI) (ca 9) (jQn 3 0) n G a H) (G0 : jT) (H0 : Heap) (r0 : Nat) (r1 : Nat) (a2 : Int32) (n1 : Nat) (lz : Int32) : Met l yJx4a65c_fastRemove_b59b0 (jw yJx4a65c_fastRemove_b59b0 cJx4a65c_fastRemove_b59b0 4 none) ({ frames := 1, cells := 0, slots := 0, locals := 61 }) (va_Pc [.ref r0, .ref r1, .int a2] (fun U => U.heap = H0 ∧ jX B base G0 [] H0 ∧ jG dC dI ca base U ∧ jK7 dC dI ca base U ∧ G0 r0 = some (1, 1) ∧ G0 r1 = some (221, n1) ∧ jP (dC, dI) G0 H0 [(r0, 1, 1, .ref r1), (r0, 1, 2, .int lz)] ∧ jIs (dC, dI) G0 H0 [(jFl, jLs dC dI ca G0 3 none)] ∧ 0 ≤ a2.toInt ∧ a2.toInt < lz.toInt)) (va_Qv (S := Int32) (fun u => u.toInt = lz.toInt - 1) (fun u t => ((jRt (dC, dI) B base G0 EJx4a65c_fastRemove_b59b0L1 H0 [(r0, 1, 2, .int u)] t.heap) ∧ jOw (dC, dI) G0 1 r0 H0 t.heap) ∧ jIs (dC, dI) G0 t.heap [(jFl, jLs dC dI ca G0 3 none)]) (jA base)) 0 0 (jA base) := by
  refine Met.ofW (cc := cJx4a65c_fastRemove_b59b0) (maxL := 4) (ret := none) (by decide) rfl ?_
  intro p e s m args below meth c s₁ Bd hml hv
  obtain ⟨rfl, hH0, hX, hG, hK7, hg_r0, hg_r1, hP0, hI0, hp0, hp1⟩ := hv
  have hK := hG.1
  have hx := Bd.exec
  have hb := Bd.bytes
  have hr := Bd.returns
  have hts := atoms_spec (ws := (jw yJx4a65c_fastRemove_b59b0 cJx4a65c_fastRemove_b59b0 4 none)) Bd.pre
  have htw : ∀ w ∈ jWl, w.before _ s = true := fun w h => hts w (List.mem_cons_of_mem _ h)
  have hown : s.vm.findClass RJx4a65c = some m.cls := findClass_of_methodNamed Bd.named
  have hlocks := Bd.notSynchronized
  obtain ⟨Q, hQ⟩ : ∃ Q, Q = MQ below (va_Qv (S := Int32) (fun u => u.toInt = lz.toInt - 1) (fun u t => ((jRt (dC, dI) B base G0 EJx4a65c_fastRemove_b59b0L1 H0 [(r0, 1, 2, .int u)] t.heap) ∧ jOw (dC, dI) G0 1 r0 H0 t.heap) ∧ jIs (dC, dI) G0 t.heap [(jFl, jLs dC dI ca G0 3 none)]) (jA base)) ([.ref r0, .ref r1, .int a2] : List Value).toArray s 0 0 (jA base) := ⟨_, rfl⟩
  rw [← hQ]
  have hl := lv_entry ([.ref r0, .ref r1, .int a2]) (n := 4) (Nat.le_of_ble_eq_true rfl)
  rw [lg_entry_eq]
  generalize (lg_sl ([.ref r0, .ref r1, .int a2]) ++ List.replicate (4 - (lg_sl ([.ref r0, .ref r1, .int a2])).length) Slot.unset).toArray = ls at hl ⊢
  have hl : lv_has ls 4 [(0, .ref r0), (1, .ref r1), (2, .int a2)] := hl
  generalize hR : (headSpec (jw yJx4a65c_fastRemove_b59b0 cJx4a65c_fastRemove_b59b0 4 none) ({ frames := 1, cells := 0, slots := 0, locals := 61 })).room = R
  subst hH0
  have hh : jSt (dC, dI) B base G0 G0 EJx4a65c_fastRemove_b59b0L1 s.heap 0 0 [(r0, 1, 1, .ref r1), (r0, 1, 2, .int lz)] [] [(jFl, jLs dC dI ca G0 3 none)] s.heap [] := jSt.start hX hP0 jMc.nil hI0
  clear hX hP0
  have hk0 : (0 : Int32).toInt = 0 := by decide
  have hk1 : (1 : Int32).toInt = 1 := by decide
  have hly_1_0 := htw (u_lay RJx4a65c TJx4a65c 0) (jWc_wsJx4a65c0 _ (u_in_lay (by decide)))
  have hly_1_2 := htw (u_lay RJx4a65c TJx4a65c 2) (jWc_wsJx4a65c0 _ (u_in_lay (by decide)))
  have hlk_63 := (htw (.fieldLink RJx4a65c 63 "java/util/ArrayList" "modCount" "I") (jWr_33 _ (List.mem_of_getElem? (i := 11) rfl)))
  have hlk_48 := (htw (.fieldLink RJx4a65c 48 "java/util/ArrayList" "size" "I") (jWr_28 _ (List.mem_of_getElem? (i := 2) rfl)))
  have hrg_a2 := jb_rng a2
  have hh_1 := hh.addI (jOw.ie (dC := dC) (dI := dI) (G0 := G0) (k := 1) (r := r0) (H0 := s.heap) (F := [(1, 0), (1, 1), (1, 2)]) (C := RJx4a65c) (T := TJx4a65c) (N := 3) rfl (by decide) hh.2.2.2.2.1 (jOw.rf))
  clear hh
  obtain ⟨lz_2, lx_2, hl1_2, hl2_2, hl3_2, hl4_2⟩ := jLs.at (hh_1.iv 1 rfl) hg_r0
  obtain rfl : lz = lz_2 := Value.int.inj (jf.uniq (hh_1.at 1 rfl) hl1_2)
  have hl3_2 : 0 ≤ lz.toInt ∧ lz.toInt ≤ 3 := hl3_2
  obtain rfl : r1 = lx_2 := Value.ref.inj (jf.uniq (hh_1.at 0 rfl) hl2_2)
  rcases hl4_2 with ⟨hl9_2, hl5_2⟩ | ⟨lm_2, lf_2, hg_lx_2, hlm_2, hl6_2, hl7_2, hl8_2⟩
  · skip
    exact (by omega : False).elim
  · skip
    obtain rfl : n1 = lm_2 := by have h9 := Option.some.inj (hg_r1.symm.trans hg_lx_2); exact congrArg Prod.snd h9
    have hd_3 := jLs.less (hh_1.iv 1 rfl) r0
    have hh_4 := hh_1.sub (L1 := [(r0, 1, 1, .ref r1), (r0, 1, 2, .int lz)]) [0, 1] rfl (M1 := []) [] rfl (I1 := [([(1, 0), (1, 1), (1, 2)], jOw (dC, dI) G0 1 r0 s.heap)]) [0] rfl
    clear hh_1
    have hh_5 := hh_4.addI (jLs.ie hd_3)
    clear hh_4
    have hh_6 := hh_5.addI (jQc.ie hl7_2 hg_lx_2 (by decide) (by decide))
    clear hh_5
    refine lv_aload_n hx hb dJx4a65c_fastRemove_b59b0_0 rfl (lv_at hl 0 rfl) ?_
    refine lv_dup hx hb dJx4a65c_fastRemove_b59b0_1 rfl ?_
    obtain ⟨v_7, hv_7, hh_8⟩ := hh_6.pin (C := RJx4a65c) (T := TJx4a65c) (N := 3) hB1 rfl (by decide) hg_r0 (i := 0) (by decide) rfl
    clear hh_6
    obtain ⟨modCount_9, rfl⟩ := hv_7
    refine j7_readS hx hb hown hK (C := RJx4a65c) (T := TJx4a65c) (N := 3) rfl hly_1_0 hlk_63 (htw (.sameField "java/util/ArrayList" "java/util/AbstractList" "modCount" "I") (jWr_33 _ (List.mem_of_getElem? (i := 12) rfl))) (hh_8.at 0 rfl) dJx4a65c_fastRemove_b59b0_2 ?_
    refine lv_iconst (v := 1) hx hb dJx4a65c_fastRemove_b59b0_5 (by decide) ?_
    refine lv_iadd hx hb dJx4a65c_fastRemove_b59b0_6 ?_
    refine lv_topi (fun z_10 ez_10 => ?_)
    have hd_12 := hh_8.iv 2 rfl
    have hh_13 := hh_8.sub (L1 := [(r0, 1, 0, .int modCount_9), (r0, 1, 1, .ref r1), (r0, 1, 2, .int lz)]) [0, 1, 2] rfl (M1 := []) [] rfl (I1 := [([(221, 0)], jQc dC dI (ca 9) r1 n1 lf_2), (jFl, jLs dC dI ca G0 3 (some r0))]) [0, 1] rfl
    clear hh_8
    refine j7_putS hx hb hown hK hh_13 hB hAp hB1 (C := RJx4a65c) (T := TJx4a65c) (N := 3) rfl (by decide) hg_r0 (i := 0) (by decide) hly_1_0 rfl hlk_63 (htw (.sameField "java/util/ArrayList" "java/util/AbstractList" "modCount" "I") (jWr_33 _ (List.mem_of_getElem? (i := 12) rfl))) rfl (ty := .int) (v := .int z_10) (by decide +kernel) rfl rfl (⟨_, rfl⟩) rfl (L1 := [(r0, 1, 1, .ref r1), (r0, 1, 2, .int lz)]) [1, 2] rfl rfl rfl dJx4a65c_fastRemove_b59b0_7 (fun H_11 locs_11 hr_11 hh_11 => ?_)
    clear hh_13
    have hd_12n := jOw.put hd_12 hr_11
    have hh_14 := hh_11.addI (jOw.ie (dC := dC) (dI := dI) (G0 := G0) (k := 1) (r := r0) (H0 := s.heap) (F := [(1, 0), (1, 1), (1, 2)]) (C := RJx4a65c) (T := TJx4a65c) (N := 3) rfl (by decide) hh_11.2.2.2.2.1 (hd_12n))
    clear hh_11
    clear hd_12 hd_12n
    clear hr_11
    refine lv_aload_n hx hb dJx4a65c_fastRemove_b59b0_10 rfl (lv_at hl 0 rfl) ?_
    refine j7_read hx hb hown hK (C := RJx4a65c) (T := TJx4a65c) (N := 3) rfl hly_1_2 hlk_48 (hh_14.at 2 rfl) dJx4a65c_fastRemove_b59b0_11 ?_
    refine lv_iconst (v := 1) hx hb dJx4a65c_fastRemove_b59b0_14 (by decide) ?_
    refine lv_isub hx hb dJx4a65c_fastRemove_b59b0_15 ?_
    refine lv_topi (fun z_15 ez_15 => ?_)
    have hz_15 : z_15.toInt = lz.toInt - 1 := by rw [ez_15]; exact jb_isub2 (rfl) ((by decide)) (by omega)
    refine lv_dup hx hb dJx4a65c_fastRemove_b59b0_16 rfl ?_
    refine lv_istore_n (lv' := [(3, .int z_15), (0, .ref r0), (1, .ref r1), (2, .int a2)]) hx hb dJx4a65c_fastRemove_b59b0_17 rfl hl (by decide) rfl (fun ls hl => ?_)
    refine lv_iload_n hx hb dJx4a65c_fastRemove_b59b0_18 rfl (lv_at hl 3 rfl) ?_
    refine lv_icmp_le (tgt := 34) hx hb dJx4a65c_fastRemove_b59b0_19 (by decide) (fun c_16 => ?_) (fun c_16 => ?_)
    · skip
      have c_16' : z_15.toInt ≤ a2.toInt := jb_le (rfl) (rfl) c_16
      refine lv_aload_n hx hb dJx4a65c_fastRemove_b59b0_34 rfl (lv_at hl 2 rfl) ?_
      refine lv_aload_n hx hb dJx4a65c_fastRemove_b59b0_35 rfl (lv_at hl 1 rfl) ?_
      refine lv_iload_n hx hb dJx4a65c_fastRemove_b59b0_36 rfl (lv_at hl 0 rfl) ?_
      refine lv_dup_x1 hx hb dJx4a65c_fastRemove_b59b0_37 rfl rfl ?_
      have hd_18 := hh_14.iv 0 rfl
      have hh_19 := hh_14.sub (L1 := [(r0, 1, 0, .int z_10), (r0, 1, 1, .ref r1), (r0, 1, 2, .int lz)]) [0, 1, 2] rfl (M1 := []) [] rfl (I1 := [([(221, 0)], jQc dC dI (ca 9) r1 n1 lf_2), (jFl, jLs dC dI ca G0 3 (some r0))]) [1, 2] rfl
      clear hh_14
      have hd_20 := hh_19.iv 1 rfl
      have hh_21 := hh_19.sub (L1 := [(r0, 1, 0, .int z_10), (r0, 1, 1, .ref r1), (r0, 1, 2, .int lz)]) [0, 1, 2] rfl (M1 := []) [] rfl (I1 := [([(221, 0)], jQc dC dI (ca 9) r1 n1 lf_2)]) [0] rfl
      clear hh_19
      refine j7_putX hx hb hown hK hh_21 hB hAp hB1 (C := RJx4a65c) (T := TJx4a65c) (N := 3) rfl (by decide) hg_r0 (i := 2) (by decide) hly_1_2 rfl hlk_48 rfl (ty := .int) (v := .int z_15) (by decide +kernel) rfl rfl (⟨_, rfl, by omega, by omega⟩) rfl (L1 := [(r0, 1, 0, .int z_10), (r0, 1, 1, .ref r1)]) [0, 1] rfl rfl rfl dJx4a65c_fastRemove_b59b0_38 (fun H_17 locs_17 hr_17 hh_17 => ?_)
      clear hh_21
      have hd_20n := jLs.fld hd_20 hg_r0 hr_17
      have hh_22 := hh_17.addI (jLs.ie hd_20n)
      clear hh_17
      have hd_18n := jOw.put hd_18 hr_17
      have hh_23 := hh_22.addI (jOw.ie (dC := dC) (dI := dI) (G0 := G0) (k := 1) (r := r0) (H0 := s.heap) (F := [(1, 0), (1, 1), (1, 2)]) (C := RJx4a65c) (T := TJx4a65c) (N := 3) rfl (by decide) hh_22.2.2.2.2.1 (hd_18n))
      clear hh_22
      clear hd_18 hd_18n
      clear hd_20 hd_20n hr_17
      refine lv_null hx hb dJx4a65c_fastRemove_b59b0_41 ?_
      have hd_25 := hh_23.iv 2 rfl
      have hd_26 := hh_23.iv 1 rfl
      have hh_28 := hh_23.sub (L1 := [(r0, 1, 2, .int z_15), (r0, 1, 0, .int z_10), (r0, 1, 1, .ref r1)]) [0, 1, 2] rfl (M1 := []) [] rfl (I1 := [([(1, 0), (1, 1), (1, 2)], jOw (dC, dI) G0 1 r0 s.heap)]) [0] rfl
      clear hh_23
      refine j7_qastNO hx hb hK7.1 hh_28 hB hB221 0 rfl (by decide) (by decide) rfl rfl rfl hg_r1 (x := z_15.toInt) (rfl) (by omega) (Or.inl rfl) hd_25 dJx4a65c_fastRemove_b59b0_42 (fun H_24 locs_24 fq_27 hv_24 ho_24 hq_24 hr_24 hh_24 => ?_)
      clear hh_28
      have hd_26n := jLs.arr hd_26 hg_r0 hg_r1 hr_24
      have hh_29 := hh_24.addI (jLs.ie hd_26n)
      clear hh_24
      have hh_30 := hh_29.addI (hq_24.ie hg_r1 (by decide) (by decide))
      clear hh_29
      clear hd_25 hd_26 hd_26n hr_24
      have hd_31 := jLs.full (hh_30.iv 1 rfl) hg_r0 ⟨_, _, hh_30.at 0 rfl, hh_30.at 2 rfl, ⟨by omega, (show _ ≤ (3 : Int) by omega)⟩, Or.inr ⟨_, _, hg_r1, by omega, by omega, hh_30.iv 0 rfl, by first | exact jRm.copy hl8_2 (by omega) (by omega) (zz_none) (by omega) (by omega) (by omega) ho_24 | exact jRm.last hl8_2 (by omega) (by omega) ho_24⟩⟩
      have hh_32 := hh_30.sub (L1 := [(r0, 1, 2, .int z_15), (r0, 1, 0, .int z_10), (r0, 1, 1, .ref r1)]) [0, 1, 2] rfl (M1 := []) [] rfl (I1 := [([(221, 0)], jQc dC dI (ca 9) r1 n1 fq_27), ([(1, 0), (1, 1), (1, 2)], jOw (dC, dI) G0 1 r0 s.heap)]) [0, 2] rfl
      clear hh_30
      have hh_33 := hh_32.addI (jLs.ie hd_31)
      clear hh_32
      rw [hQ]
      exact W.vret hx hb hr (fun t ht hW => ⟨⟨z_15, rfl, by first | omega | rfl | assumption | decide | exact Or.inl rfl | exact Or.inr rfl | (simp only; omega), ⟨⟨hh_33.rt (M1 := [(r0, 1, 2, .int z_15)]) [0] rfl ht, by rw [ht]; exact hh_33.iv 2 rfl⟩, by rw [ht]; exact hh_33.2.2.2.2.2.2.2.2.sub (L1 := [(jFl, jLs dC dI ca G0 3 none)]) [0] rfl⟩⟩, by rw [ht]; try exact hh_33.1.1, fun q h9 hq => by rw [ht]; try exact hh_33.1.2.1 q h9 hq⟩) hh_33.1.2.2 dJx4a65c_fastRemove_b59b0_43
    · skip
      have c_16' : z_15.toInt > a2.toInt := jb_le_n (rfl) (rfl) c_16
      refine lv_aload_n hx hb dJx4a65c_fastRemove_b59b0_22 rfl (lv_at hl 2 rfl) ?_
      refine lv_iload_n hx hb dJx4a65c_fastRemove_b59b0_23 rfl (lv_at hl 3 rfl) ?_
      refine lv_iconst (v := 1) hx hb dJx4a65c_fastRemove_b59b0_24 (by decide) ?_
      refine lv_iadd hx hb dJx4a65c_fastRemove_b59b0_25 ?_
      refine lv_topi (fun z_34 ez_34 => ?_)
      have hz_34 : z_34.toInt = a2.toInt + 1 := by rw [ez_34]; exact jb_iadd2 (rfl) ((by decide)) (by omega)
      refine lv_aload_n hx hb dJx4a65c_fastRemove_b59b0_26 rfl (lv_at hl 2 rfl) ?_
      refine lv_iload_n hx hb dJx4a65c_fastRemove_b59b0_27 rfl (lv_at hl 3 rfl) ?_
      refine lv_iload_n hx hb dJx4a65c_fastRemove_b59b0_28 rfl (lv_at hl 0 rfl) ?_
      refine lv_iload_n hx hb dJx4a65c_fastRemove_b59b0_29 rfl (lv_at hl 3 rfl) ?_
      refine lv_isub hx hb dJx4a65c_fastRemove_b59b0_30 ?_
      refine lv_topi (fun z_35 ez_35 => ?_)
      have hz_35 : z_35.toInt = z_15.toInt - a2.toInt := by rw [ez_35]; exact jb_isub2 (rfl) (rfl) (by omega)
      have hd_37 := hh_14.iv 1 rfl
      have hd_38 := hh_14.iv 1 rfl
      have hd_39 := hh_14.iv 2 rfl
      have hh_41 := hh_14.sub (L1 := [(r0, 1, 0, .int z_10), (r0, 1, 1, .ref r1), (r0, 1, 2, .int lz)]) [0, 1, 2] rfl (M1 := []) [] rfl (I1 := [([(1, 0), (1, 1), (1, 2)], jOw (dC, dI) G0 1 r0 s.heap)]) [0] rfl
      clear hh_14
      refine j7_qcopy hx hb (by rw [hml]; exact hl.1.symm) hown (htw (.methodLink RJx4a65c 112 arraycopyName) (jWr_42 _ (List.mem_of_getElem? (i := 15) rfl))) (htw (.native arraycopyName) (jWr_16 _ (List.mem_of_getElem? (i := 19) rfl))) (htw (.static arraycopyName) (jWr_16 _ (List.mem_of_getElem? (i := 20) rfl))) (htw (.initialized "java/lang/System") (jWr_16 _ (List.mem_of_getElem? (i := 21) rfl))) hK hK7.1 hh_41 hB hB221 0 rfl (by decide) (by decide) rfl rfl rfl hg_r1 hg_r1 hd_38 hd_37 hB3 (T := TX1) (N := 17) rfl (by decide) hK7.2.2.1.1.1 (x := z_34.toInt) (y := a2.toInt) (z := z_35.toInt) rfl rfl rfl (by omega) (by rw [← hR]; exact Nat.le_of_ble_eq_true rfl) (by rw [← hR]; exact Nat.le_of_ble_eq_true rfl) dJx4a65c_fastRemove_b59b0_31 (fun H_36 locs_36 fq_40 hc_36 hq_36 hr_36 hh_36 => ?_)
      clear hh_41
      have hd_39n := jLs.arr hd_39 hg_r0 hg_r1 hr_36
      have hh_42 := hh_36.addI (jLs.ie hd_39n)
      clear hh_36
      have hh_43 := hh_42.addI (hq_36.ie hg_r1 (by decide) (by decide))
      clear hh_42
      refine lv_aload_n hx hb dJx4a65c_fastRemove_b59b0_34 rfl (lv_at hl 2 rfl) ?_
      refine lv_aload_n hx hb dJx4a65c_fastRemove_b59b0_35 rfl (lv_at hl 1 rfl) ?_
      refine lv_iload_n hx hb dJx4a65c_fastRemove_b59b0_36 rfl (lv_at hl 0 rfl) ?_
      refine lv_dup_x1 hx hb dJx4a65c_fastRemove_b59b0_37 rfl rfl ?_
      have hd_45 := hh_43.iv 2 rfl
      have hh_46 := hh_43.sub (L1 := [(r0, 1, 0, .int z_10), (r0, 1, 1, .ref r1), (r0, 1, 2, .int lz)]) [0, 1, 2] rfl (M1 := []) [] rfl (I1 := [([(221, 0)], jQc dC dI (ca 9) r1 n1 fq_40), (jFl, jLs dC dI ca G0 3 (some r0))]) [0, 1] rfl
      clear hh_43
      have hd_47 := hh_46.iv 1 rfl
      have hh_48 := hh_46.sub (L1 := [(r0, 1, 0, .int z_10), (r0, 1, 1, .ref r1), (r0, 1, 2, .int lz)]) [0, 1, 2] rfl (M1 := []) [] rfl (I1 := [([(221, 0)], jQc dC dI (ca 9) r1 n1 fq_40)]) [0] rfl
      clear hh_46
      refine j7_putX hx hb hown hK hh_48 hB hAp hB1 (C := RJx4a65c) (T := TJx4a65c) (N := 3) rfl (by decide) hg_r0 (i := 2) (by decide) hly_1_2 rfl hlk_48 rfl (ty := .int) (v := .int z_15) (by decide +kernel) rfl rfl (⟨_, rfl, by omega, by omega⟩) rfl (L1 := [(r0, 1, 0, .int z_10), (r0, 1, 1, .ref r1)]) [0, 1] rfl rfl rfl dJx4a65c_fastRemove_b59b0_38 (fun H_44 locs_44 hr_44 hh_44 => ?_)
      clear hh_48
      have hd_47n := jLs.fld hd_47 hg_r0 hr_44
      have hh_49 := hh_44.addI (jLs.ie hd_47n)
      clear hh_44
      have hd_45n := jOw.put hd_45 hr_44
      have hh_50 := hh_49.addI (jOw.ie (dC := dC) (dI := dI) (G0 := G0) (k := 1) (r := r0) (H0 := s.heap) (F := [(1, 0), (1, 1), (1, 2)]) (C := RJx4a65c) (T := TJx4a65c) (N := 3) rfl (by decide) hh_49.2.2.2.2.1 (hd_45n))
      clear hh_49
      clear hd_45 hd_45n
      clear hd_47 hd_47n hr_44
      refine lv_null hx hb dJx4a65c_fastRemove_b59b0_41 ?_
      have hd_52 := hh_50.iv 2 rfl
      have hd_53 := hh_50.iv 1 rfl
      have hh_55 := hh_50.sub (L1 := [(r0, 1, 2, .int z_15), (r0, 1, 0, .int z_10), (r0, 1, 1, .ref r1)]) [0, 1, 2] rfl (M1 := []) [] rfl (I1 := [([(1, 0), (1, 1), (1, 2)], jOw (dC, dI) G0 1 r0 s.heap)]) [0] rfl
      clear hh_50
      refine j7_qastNO hx hb hK7.1 hh_55 hB hB221 0 rfl (by decide) (by decide) rfl rfl rfl hg_r1 (x := z_15.toInt) (rfl) (by omega) (Or.inl rfl) hd_52 dJx4a65c_fastRemove_b59b0_42 (fun H_51 locs_51 fq_54 hv_51 ho_51 hq_51 hr_51 hh_51 => ?_)
      clear hh_55
      have hd_53n := jLs.arr hd_53 hg_r0 hg_r1 hr_51
      have hh_56 := hh_51.addI (jLs.ie hd_53n)
      clear hh_51
      have hh_57 := hh_56.addI (hq_51.ie hg_r1 (by decide) (by decide))
      clear hh_56
      clear hd_52 hd_53 hd_53n hr_51
      have hd_58 := jLs.full (hh_57.iv 1 rfl) hg_r0 ⟨_, _, hh_57.at 0 rfl, hh_57.at 2 rfl, ⟨by omega, (show _ ≤ (3 : Int) by omega)⟩, Or.inr ⟨_, _, hg_r1, by omega, by omega, hh_57.iv 0 rfl, by first | exact jRm.copy hl8_2 (by omega) (by omega) hc_36 (by omega) (by omega) (by omega) ho_51 | exact jRm.last hl8_2 (by omega) (by omega) ho_51⟩⟩
      have hh_59 := hh_57.sub (L1 := [(r0, 1, 2, .int z_15), (r0, 1, 0, .int z_10), (r0, 1, 1, .ref r1)]) [0, 1, 2] rfl (M1 := []) [] rfl (I1 := [([(221, 0)], jQc dC dI (ca 9) r1 n1 fq_54), ([(1, 0), (1, 1), (1, 2)], jOw (dC, dI) G0 1 r0 s.heap)]) [0, 2] rfl
      clear hh_57
      have hh_60 := hh_59.addI (jLs.ie hd_58)
      clear hh_59
      rw [hQ]
      exact W.vret hx hb hr (fun t ht hW => ⟨⟨z_15, rfl, by first | omega | rfl | assumption | decide | exact Or.inl rfl | exact Or.inr rfl | (simp only; omega), ⟨⟨hh_60.rt (M1 := [(r0, 1, 2, .int z_15)]) [0] rfl ht, by rw [ht]; exact hh_60.iv 2 rfl⟩, by rw [ht]; exact hh_60.2.2.2.2.2.2.2.2.sub (L1 := [(jFl, jLs dC dI ca G0 3 none)]) [0] rfl⟩⟩, by rw [ht]; try exact hh_60.1.1, fun q h9 hq => by rw [ht]; try exact hh_60.1.2.1 q h9 hq⟩) hh_60.1.2.2 dJx4a65c_fastRemove_b59b0_43
set_option maxHeartbeats 4000000 in
set_option maxRecDepth 20000 in
theorem uJx4a65c_remove_915e3L1 (l : Launch) (dC : Nat → ClassId) (dI : Nat → Nat → Nat) (ca : Nat → ClassId) (base : Nat) (B : jF) (hB : jBok B) (hAp : jAp (dC, dI)) (hB1 : ∀ n G a H, B 1 n G a H ↔ jOb (dC, dI) 1 3 (F1 n G) a H) (hB3 : ∀ n G a H, B 3 n G a H ↔ jOb (dC, dI) 3 17 (F3 n G) a H) (hB221 : ∀ n G a H, B 221 n G a H ↔ jAq (dC, dI) (ca 9) (jQn 3 0) n G a H) (G0 : jT) (H0 : Heap) (r0 : Nat) (a1 : Int32) (lz : Int32) : Met l yJx4a65c_remove_915e3 (jw yJx4a65c_remove_915e3 cJx4a65c_remove_915e3 4 (some (.object "java/lang/Object"))) ({ frames := 2, cells := 0, slots := 0, locals := 84 }) (va_Pc [.ref r0, .int a1] (fun U => U.heap = H0 ∧ jX B base G0 [] H0 ∧ jG dC dI ca base U ∧ jK7 dC dI ca base U ∧ G0 r0 = some (1, 1) ∧ jP (dC, dI) G0 H0 [(r0, 1, 2, .int lz)] ∧ jIs (dC, dI) G0 H0 [(jFl, jLs dC dI ca G0 3 none)] ∧ 0 ≤ a1.toInt ∧ a1.toInt < lz.toInt)) (jQx (S := Int32) (fun v u => jRf G0 3 0 v ∧ u.toInt = lz.toInt - 1) (fun u t => ((jRt (dC, dI) B base G0 EJx4a65c_remove_915e3L1 H0 [(r0, 1, 2, .int u)] t.heap) ∧ jOw (dC, dI) G0 1 r0 H0 t.heap) ∧ jIs (dC, dI) G0 t.heap [(jFl, jLs dC dI ca G0 3 none)]) (jA base)) 0 0 (jA base) := by
  refine Met.ofW (cc := cJx4a65c_remove_915e3) (maxL := 4) (ret := (some (.object "java/lang/Object"))) (by decide) rfl ?_
  intro p e s m args below meth c s₁ Bd hml hv
  obtain ⟨rfl, hH0, hX, hG, hK7, hg_r0, hP0, hI0, hp0, hp1⟩ := hv
  have hK := hG.1
  have hx := Bd.exec
  have hb := Bd.bytes
  have hr := Bd.returns
  have hts := atoms_spec (ws := (jw yJx4a65c_remove_915e3 cJx4a65c_remove_915e3 4 (some (.object "java/lang/Object")))) Bd.pre
  have htw : ∀ w ∈ jWl, w.before _ s = true := fun w h => hts w (List.mem_cons_of_mem _ h)
  have hown : s.vm.findClass RJx4a65c = some m.cls := findClass_of_methodNamed Bd.named
  have hlocks := Bd.notSynchronized
  obtain ⟨Q, hQ⟩ : ∃ Q, Q = MQ below (jQx (S := Int32) (fun v u => jRf G0 3 0 v ∧ u.toInt = lz.toInt - 1) (fun u t => ((jRt (dC, dI) B base G0 EJx4a65c_remove_915e3L1 H0 [(r0, 1, 2, .int u)] t.heap) ∧ jOw (dC, dI) G0 1 r0 H0 t.heap) ∧ jIs (dC, dI) G0 t.heap [(jFl, jLs dC dI ca G0 3 none)]) (jA base)) ([.ref r0, .int a1] : List Value).toArray s 0 0 (jA base) := ⟨_, rfl⟩
  rw [← hQ]
  have hl := lv_entry ([.ref r0, .int a1]) (n := 4) (Nat.le_of_ble_eq_true rfl)
  rw [lg_entry_eq]
  generalize (lg_sl ([.ref r0, .int a1]) ++ List.replicate (4 - (lg_sl ([.ref r0, .int a1])).length) Slot.unset).toArray = ls at hl ⊢
  have hl : lv_has ls 4 [(0, .ref r0), (1, .int a1)] := hl
  generalize hR : (headSpec (jw yJx4a65c_remove_915e3 cJx4a65c_remove_915e3 4 (some (.object "java/lang/Object"))) ({ frames := 2, cells := 0, slots := 0, locals := 84 })).room = R
  subst hH0
  have hh : jSt (dC, dI) B base G0 G0 EJx4a65c_remove_915e3L1 s.heap 0 0 [(r0, 1, 2, .int lz)] [] [(jFl, jLs dC dI ca G0 3 none)] s.heap [] := jSt.start hX hP0 jMc.nil hI0
  clear hX hP0
  have hk0 : (0 : Int32).toInt = 0 := by decide
  have hk1 : (1 : Int32).toInt = 1 := by decide
  have hly_1_1 := htw (u_lay RJx4a65c TJx4a65c 1) (jWc_wsJx4a65c0 _ (u_in_lay (by decide)))
  have hly_1_2 := htw (u_lay RJx4a65c TJx4a65c 2) (jWc_wsJx4a65c0 _ (u_in_lay (by decide)))
  have hlk_48 := (htw (.fieldLink RJx4a65c 48 "java/util/ArrayList" "size" "I") (jWr_28 _ (List.mem_of_getElem? (i := 2) rfl)))
  have hlk_9 := (htw (.fieldLink RJx4a65c 9 "java/util/ArrayList" "elementData" "[Ljava/lang/Object;") (jWr_9 _ (List.mem_of_getElem? (i := 15) rfl)))
  have hrg_a1 := jb_rng a1
  have hh_1 := hh.addI (jOw.ie (dC := dC) (dI := dI) (G0 := G0) (k := 1) (r := r0) (H0 := s.heap) (F := [(1, 0), (1, 1), (1, 2)]) (C := RJx4a65c) (T := TJx4a65c) (N := 3) rfl (by decide) hh.2.2.2.2.1 (jOw.rf))
  clear hh
  obtain ⟨lz_2, lx_2, hl1_2, hl2_2, hl3_2, hl4_2⟩ := jLs.at (hh_1.iv 1 rfl) hg_r0
  obtain rfl : lz = lz_2 := Value.int.inj (jf.uniq (hh_1.at 0 rfl) hl1_2)
  have hl3_2 : 0 ≤ lz.toInt ∧ lz.toInt ≤ 3 := hl3_2
  rcases hl4_2 with ⟨rfl, hl5_2⟩ | ⟨lm_2, lf_2, hg_lx_2, hlm_2, hl6_2, hl7_2, hl8_2⟩
  · skip
    exact (by omega : False).elim
  · skip
    have hh_3 := hh_1.more (P1 := [(r0, 1, 1, .ref lx_2)]) (jP.cons hg_r0 hl2_2 jP.nil)
    clear hh_1
    have hh_4 := hh_3.addI (jQc.ie hl7_2 hg_lx_2 (by decide) (by decide))
    clear hh_3
    refine lv_iload_n hx hb dJx4a65c_remove_915e3_0 rfl (lv_at hl 1 rfl) ?_
    refine lv_aload_n hx hb dJx4a65c_remove_915e3_1 rfl (lv_at hl 0 rfl) ?_
    refine j7_read hx hb hown hK (C := RJx4a65c) (T := TJx4a65c) (N := 3) rfl hly_1_2 hlk_48 (hh_4.at 1 rfl) dJx4a65c_remove_915e3_2 ?_
    refine va_calli (A0 := jA base) (H0 := s.heap) (va_runS (As := [.int a1, .int lz]) (rest := []) ⟨hx, hb, hml, hown, hts⟩ (uJ15_checkIndex_7cf53 l dC dI ca base B hB hAp G0 s.heap a1 lz) (va_cwS 2 hts (jgS (jWr_28 _ (List.mem_of_getElem? (i := 7) rfl)) (jWr_28 _ (List.mem_of_getElem? (i := 8) rfl)) (jWr_28 _ (List.mem_of_getElem? (i := 9) rfl)) (jWr_28 _ (List.mem_of_getElem? (i := 10) rfl))) rfl rfl rfl (by decide +kernel) ⟨by rw [← hR]; exact Nat.le_of_ble_eq_true rfl, by rw [← hR]; exact Nat.le_of_ble_eq_true rfl⟩) ⟨fun a U g mk q => by obtain ⟨q0, q1, q2, qK, q10, q11⟩ := q; exact ⟨q0, q1, q2, jG.calling g mk a qK, q10, q11⟩, fun U hU hW => ⟨rfl, hU, hh_4.2.1, hG.step hW hU hh_4.1, jP.nil, by first | omega | (refine ⟨?_, ?_⟩ <;> (first | omega | rfl | assumption | decide | exact Or.inl rfl | exact Or.inr rfl | (simp only; omega)))⟩⟩ rfl rfl hl.1 rfl (lv_room (Nat.le_of_ble_eq_true rfl)) dJx4a65c_remove_915e3_5 ⟨Nat.zero_le _, Nat.zero_le _⟩) hh_4.1 (fun q _ h => h) (fun q h => h) (fun r_6 u_5 t_5 H_5 locs_5 ht_5 hvm_5 hr_6 hb_5 hz_5 hk_5 hS_5 => ?_)
    rw [ht_5] at hb_5
    obtain ⟨hb_51, hb_52, hb_53, hb_54, hb_55⟩ := hb_5
    have hh_5 : jSt (dC, dI) B base G0 G0 EJx4a65c_remove_915e3L1 s.heap 0 0 [(r0, 1, 1, .ref lx_2), (r0, 1, 2, .int lz)] [] [([(221, 0)], jQc dC dI (ca 9) lx_2 lm_2 lf_2), ([(1, 0), (1, 1), (1, 2)], jOw (dC, dI) G0 1 r0 s.heap), (jFl, jLs dC dI ca G0 3 none)] H_5 locs_5 := ((hh_4.call hb_51 hb_52 hb_53 hb_54 hS_5 rfl (L1 := [(r0, 1, 1, .ref lx_2), (r0, 1, 2, .int lz)]) [0, 1] rfl rfl (M1 := []) [] rfl rfl (I1 := [([(221, 0)], jQc dC dI (ca 9) lx_2 lm_2 lf_2), ([(1, 0), (1, 1), (1, 2)], jOw (dC, dI) G0 1 r0 s.heap), (jFl, jLs dC dI ca G0 3 none)]) [0, 1, 2] rfl rfl).more hb_55)
    clear hh_4 ht_5 hvm_5 hz_5 hk_5 hS_5 hb_51 hb_52 hb_53 hb_54 hb_55
    refine lv_pop hx hb dJx4a65c_remove_915e3_8 rfl ?_
    refine lv_aload_n hx hb dJx4a65c_remove_915e3_9 rfl (lv_at hl 0 rfl) ?_
    refine j7_read hx hb hown hK (C := RJx4a65c) (T := TJx4a65c) (N := 3) rfl hly_1_1 hlk_9 (hh_5.at 0 rfl) dJx4a65c_remove_915e3_10 ?_
    refine lv_astore_n (lv' := [(2, .ref lx_2), (0, .ref r0), (1, .int a1)]) hx hb dJx4a65c_remove_915e3_13 rfl hl (by decide) rfl (fun ls hl => ?_)
    refine lv_aload_n hx hb dJx4a65c_remove_915e3_14 rfl (lv_at hl 0 rfl) ?_
    refine lv_iload_n hx hb dJx4a65c_remove_915e3_15 rfl (lv_at hl 2 rfl) ?_
    refine j7_qaldI hx hb hK7.1 hh_5 hB221 0 rfl (by decide) hg_lx_2 (x := a1.toInt) (rfl) (by omega) (hh_5.iv 0 rfl) dJx4a65c_remove_915e3_16 (fun o_7 ho_7 heo_7 => ?_)
    rcases ho_7 with rfl | ⟨el_8, rfl, hg_el_8⟩
    · simp only [va_rf]
      exact absurd heo_7.symm (hl8_2 _ (by omega))
    · simp only [va_rf]
      refine lv_astore_n (lv' := [(3, .ref el_8), (2, .ref lx_2), (0, .ref r0), (1, .int a1)]) hx hb dJx4a65c_remove_915e3_17 rfl hl (by decide) rfl (fun ls hl => ?_)
      refine lv_aload_n hx hb dJx4a65c_remove_915e3_18 rfl (lv_at hl 2 rfl) ?_
      refine lv_aload_n hx hb dJx4a65c_remove_915e3_19 rfl (lv_at hl 1 rfl) ?_
      refine lv_iload_n hx hb dJx4a65c_remove_915e3_20 rfl (lv_at hl 3 rfl) ?_
      refine va_callv (A0 := jA base) (H0 := s.heap) (va_runV (As := [.ref lx_2, .int a1]) (rest := []) ⟨hx, hb, hml, hown, hts⟩ (uJx4a65c_fastRemove_b59b0L1 l dC dI ca base B hB hAp hB1 hB3 hB221 G0 H_5 r0 lx_2 a1 lm_2 lz) (cwV 2 hts (jgV (jWr_42 _ (List.mem_of_getElem? (i := 11) rfl)) (jWr_42 _ (List.mem_of_getElem? (i := 12) rfl)) (jWr_42 _ (List.mem_of_getElem? (i := 13) rfl)) (jWr_2 _ (List.mem_of_getElem? (i := 13) rfl)) (jWr_42 _ (List.mem_of_getElem? (i := 14) rfl))) rfl rfl rfl (by decide +kernel) ⟨by rw [← hR]; exact Nat.le_of_ble_eq_true rfl, by rw [← hR]; exact Nat.le_of_ble_eq_true rfl⟩) ⟨fun a U g mk q => by obtain ⟨q0, q1, q2, qK, q10, q11, q12, q13, q14, q15⟩ := q; exact ⟨q0, q1, q2, jG.calling g mk a qK, (jK7.calling g mk a q10), q11, q12, q13, q14, q15⟩, hh_5.recv (C := RJx4a65c) (T := TJx4a65c) (N := 3) hB1 rfl (by decide) hg_r0 hK, fun U hU hW => ⟨rfl, hU, hh_5.2.1, hG.step hW hU hh_5.1, (hK7.step hW hU hh_5.1), hg_r0, hg_lx_2, (hh_5.2.2.1.sub (L1 := [(r0, 1, 1, .ref lx_2), (r0, 1, 2, .int lz)]) [0, 1] rfl), (hh_5.2.2.2.2.2.2.2.2.sub (L1 := [(jFl, jLs dC dI ca G0 3 none)]) [2] rfl), by first | omega | (refine ⟨?_, ?_⟩ <;> (first | omega | rfl | assumption | decide | exact Or.inl rfl | exact Or.inr rfl | (simp only; omega)))⟩⟩ rfl rfl hl.1 rfl (lv_room (Nat.le_of_ble_eq_true rfl)) dJx4a65c_remove_915e3_21 ⟨Nat.zero_le _, Nat.zero_le _⟩) hh_5.1 (fun q _ h => h) (fun q h => h) (fun u_9 t_9 H_9 locs_9 ht_9 hvm_9 hr_10 hb_9 hz_9 hk_9 hS_9 => ?_)
      obtain ⟨qz_9, rfl⟩ : ∃ z, z = u_9 := ⟨_, rfl⟩
      rw [ht_9] at hb_9
      obtain ⟨hb_9, hbE_9⟩ := hb_9
      obtain ⟨hb_9, hbO_9⟩ := hb_9
      obtain ⟨hb_91, hb_92, hb_93, hb_94, hb_95⟩ := hb_9
      have hh_9 : jSt (dC, dI) B base G0 G0 EJx4a65c_remove_915e3L1 s.heap 0 0 [(r0, 1, 2, .int qz_9), (r0, 1, 1, .ref lx_2)] [] [(jFl, jLs dC dI ca G0 3 none)] H_9 locs_9 := (((hh_5.call hb_91 hb_92 hb_93 hb_94 hS_9 rfl (L1 := [(r0, 1, 1, .ref lx_2)]) [0] rfl rfl (M1 := []) [] rfl rfl (I1 := []) [] rfl rfl).more hb_95)).addIs hbE_9
      have hd_11 := jOw.tr (hh_5.iv 1 rfl) hh_5.2.2.2.2.1 hbO_9
      have hh_12 := hh_9.addI (jOw.ie (dC := dC) (dI := dI) (G0 := G0) (k := 1) (r := r0) (H0 := s.heap) (F := [(1, 0), (1, 1), (1, 2)]) (C := RJx4a65c) (T := TJx4a65c) (N := 3) rfl (by decide) hh_9.2.2.2.2.1 (hd_11))
      clear hh_9
      clear hh_5 ht_9 hvm_9 hz_9 hk_9 hS_9 hb_91 hb_92 hb_93 hb_94 hb_95
      clear  hbE_9
      refine lv_aload_n hx hb dJx4a65c_remove_915e3_24 rfl (lv_at hl 0 rfl) ?_
      rw [hQ]
      exact W.aret (v := .ref el_8) hx hb hr (Or.inl ⟨_, rfl⟩) (Or.inr ⟨_, rfl⟩) (fun t ht hW => ⟨⟨.ref el_8, qz_9, rfl, ⟨⟨_, rfl, hg_el_8⟩, by first | omega | rfl | assumption | decide | exact Or.inl rfl | exact Or.inr rfl | (simp only; omega)⟩, ⟨⟨hh_12.rt (M1 := [(r0, 1, 2, .int qz_9)]) [0] rfl ht, by rw [ht]; exact hh_12.iv 0 rfl⟩, by rw [ht]; exact hh_12.2.2.2.2.2.2.2.2.sub (L1 := [(jFl, jLs dC dI ca G0 3 none)]) [1] rfl⟩⟩, by rw [ht]; try exact hh_12.1.1, fun q h9 hq => by rw [ht]; try exact hh_12.1.2.1 q h9 hq⟩) hh_12.1.2.2 dJx4a65c_remove_915e3_25
end
section
theorem dX11_numberOf_0 : decode cX11_numberOf 0 = .ok (.iconst 0, 1) := by decide +kernel
theorem dX11_numberOf_1 : decode cX11_numberOf 1 = .ok (.istore_n 2, 1) := by decide +kernel
theorem dX11_numberOf_2 : decode cX11_numberOf 2 = .ok (.iload_n 2, 1) := by decide +kernel
theorem dX11_numberOf_3 : decode cX11_numberOf 3 = .ok (.aload_n 0, 1) := by decide +kernel
theorem dX11_numberOf_4 : decode cX11_numberOf 4 = .ok (.getfield 61, 3) := by decide +kernel
theorem dX11_numberOf_7 : decode cX11_numberOf 7 = .ok (.invokeinterface 142 1, 5) := by decide +kernel
theorem dX11_numberOf_12 : decode cX11_numberOf 12 = .ok (.if_icmp .ge 25, 3) := by decide +kernel
theorem dX11_numberOf_15 : decode cX11_numberOf 15 = .ok (.aload_n 0, 1) := by decide +kernel
theorem dX11_numberOf_16 : decode cX11_numberOf 16 = .ok (.getfield 61, 3) := by decide +kernel
theorem dX11_numberOf_19 : decode cX11_numberOf 19 = .ok (.iload_n 2, 1) := by decide +kernel
theorem dX11_numberOf_20 : decode cX11_numberOf 20 = .ok (.invokeinterface 249 2, 5) := by decide +kernel
theorem dX11_numberOf_25 : decode cX11_numberOf 25 = .ok (.aload_n 1, 1) := by decide +kernel
theorem dX11_numberOf_26 : decode cX11_numberOf 26 = .ok (.if_acmp .ne 5, 3) := by decide +kernel
theorem dX11_numberOf_29 : decode cX11_numberOf 29 = .ok (.iload_n 2, 1) := by decide +kernel
theorem dX11_numberOf_30 : decode cX11_numberOf 30 = .ok (.ireturn, 1) := by decide +kernel
theorem dX11_numberOf_31 : decode cX11_numberOf 31 = .ok (.iinc 2 1, 3) := by decide +kernel
theorem dX11_numberOf_34 : decode cX11_numberOf 34 = .ok (.goto (-32), 3) := by decide +kernel
theorem dX11_numberOf_37 : decode cX11_numberOf 37 = .ok (.iconst (-1), 1) := by decide +kernel
theorem dX11_numberOf_38 : decode cX11_numberOf 38 = .ok (.ireturn, 1) := by decide +kernel
def EX11_numberOf : List (Nat × Nat) := []
def EX11_numberOfZ : List (Nat × Nat) := []
set_option maxHeartbeats 4000000 in
set_option maxRecDepth 20000 in
theorem uX11_numberOf (l : Launch) (dC : Nat → ClassId) (dI : Nat → Nat → Nat) (ca : Nat → ClassId) (base : Nat) (B : jF) (hB : jBok B) (hAp : jAp (dC, dI)) (hB1 : ∀ n G a H, B 1 n G a H ↔ jOb (dC, dI) 1 3 (F1 n G) a H) (hB3 : ∀ n G a H, B 3 n G a H ↔ jOb (dC, dI) 3 17 (F3 n G) a H) (hB13 : ∀ n G a H, B 13 n G a H ↔ jOb (dC, dI) 13 19 (F13 n G) a H) (hB221 : ∀ n G a H, B 221 n G a H ↔ jAq (dC, dI) (ca 9) (jQn 3 0) n G a H) (G0 : jT) (H0 : Heap) (r0 : Nat) (r1 : Nat) (op : Nat) (sz : Int32) : Met l yX11_numberOf (jw yX11_numberOf cX11_numberOf 3 (some .int)) ({ frames := 3, cells := 0, slots := 0, locals := 64 }) (va_Pc [.ref r0, .ref r1] (fun U => U.heap = H0 ∧ jX B base G0 [] H0 ∧ jG dC dI ca base U ∧ jK7 dC dI ca base U ∧ G0 r0 = some (13, 0) ∧ G0 r1 = some (3, 0) ∧ G0 op = some (1, 1) ∧ jP (dC, dI) G0 H0 [(r0, 13, 7, .ref op), (op, 1, 2, .int sz)] ∧ jIs (dC, dI) G0 H0 [(jFl, jLs dC dI ca G0 3 none)] ∧ 0 ≤ sz.toInt ∧ sz.toInt ≤ 40)) (va_Qi (S := Unit) (fun r u => (-1 ≤ r.toInt ∧ (r.toInt < 0 ∨ r.toInt < sz.toInt))) (fun u t => (jRt (dC, dI) B base G0 EX11_numberOf H0 [] t.heap) ∧ jIs (dC, dI) G0 t.heap [(jFl, jLs dC dI ca G0 3 none)]) (jA base)) 0 0 (jA base) := by
  refine Met.ofW (cc := cX11_numberOf) (maxL := 3) (ret := (some .int)) (by decide) rfl ?_
  intro p e s m args below meth c s₁ Bd hml hv
  obtain ⟨rfl, hH0, hX, hG, hK7, hg_r0, hg_r1, hg_op, hP0, hI0, hp0, hp1⟩ := hv
  have hK := hG.1
  have hx := Bd.exec
  have hb := Bd.bytes
  have hr := Bd.returns
  have hts := atoms_spec (ws := (jw yX11_numberOf cX11_numberOf 3 (some .int))) Bd.pre
  have htw : ∀ w ∈ jWl, w.before _ s = true := fun w h => hts w (List.mem_cons_of_mem _ h)
  have hown : s.vm.findClass RX11 = some m.cls := findClass_of_methodNamed Bd.named
  have hlocks := Bd.notSynchronized
  obtain ⟨Q, hQ⟩ : ∃ Q, Q = MQ below (va_Qi (S := Unit) (fun r u => (-1 ≤ r.toInt ∧ (r.toInt < 0 ∨ r.toInt < sz.toInt))) (fun u t => (jRt (dC, dI) B base G0 EX11_numberOf H0 [] t.heap) ∧ jIs (dC, dI) G0 t.heap [(jFl, jLs dC dI ca G0 3 none)]) (jA base)) ([.ref r0, .ref r1] : List Value).toArray s 0 0 (jA base) := ⟨_, rfl⟩
  rw [← hQ]
  have hl := lv_entry ([.ref r0, .ref r1]) (n := 3) (Nat.le_of_ble_eq_true rfl)
  rw [lg_entry_eq]
  generalize (lg_sl ([.ref r0, .ref r1]) ++ List.replicate (3 - (lg_sl ([.ref r0, .ref r1])).length) Slot.unset).toArray = ls at hl ⊢
  have hl : lv_has ls 3 [(0, .ref r0), (1, .ref r1)] := hl
  generalize hR : (headSpec (jw yX11_numberOf cX11_numberOf 3 (some .int)) ({ frames := 3, cells := 0, slots := 0, locals := 64 })).room = R
  subst hH0
  have hh : jSt (dC, dI) B base G0 G0 EX11_numberOf s.heap 0 0 [(r0, 13, 7, .ref op), (op, 1, 2, .int sz)] [] [(jFl, jLs dC dI ca G0 3 none)] s.heap [] := jSt.start hX hP0 jMc.nil hI0
  clear hX hP0
  have hkm1 : ((-1) : Int32).toInt = (-1) := by decide
  have hk0 : (0 : Int32).toInt = 0 := by decide
  have hk1 : (1 : Int32).toInt = 1 := by decide
  have hly_13_7 := htw (u_lay RX11 TX11 7) (jWc_wsX110 _ (u_in_lay (by decide)))
  have hlk_61 := (htw (.fieldLink RX11 61 "ProofServer" "open" "Ljava/util/List;") (jWr_2 _ (List.mem_of_getElem? (i := 14) rfl)))
  refine lv_iconst (v := 0) hx hb dX11_numberOf_0 (by decide) ?_
  refine lv_istore_n (lv' := [(2, .int 0), (0, .ref r0), (1, .ref r1)]) hx hb dX11_numberOf_1 rfl hl (by decide) rfl (fun ls hl => ?_)
  have L2 : ∀ (N : Nat) (v2_1 : Int32) (H_1 : Heap) (locs_1 : List Loc), jSt (dC, dI) B base G0 G0 EX11_numberOf s.heap 0 0 [(r0, 13, 7, .ref op), (op, 1, 2, .int sz)] [] [(jFl, jLs dC dI ca G0 3 none)] H_1 locs_1 → (0 ≤ v2_1.toInt ∧ v2_1.toInt ≤ 40) → (41 - v2_1.toInt : Int) < N → ∀ ls : Array Slot, lv_has ls 3 [(0, .ref r0), (1, .ref r1), (2, .int v2_1)] → W p l e R s m ([.ref r0, .ref r1] : List Value).toArray below meth c H_1 locs_1 0 0 Q (F0 m 2 ls []) := by
    intro N
    induction N with
    | zero => intro v2_1 H_1 locs_1 hh_1  hi_1 hm; exact absurd hm (by omega)
    | succ N L2 =>
      intro v2_1 H_1 locs_1 hh_1  hi_1 hm_1 ls hl
      obtain ⟨hi_1_0, hi_1_1⟩ := hi_1
      refine lv_iload_n hx hb dX11_numberOf_2 rfl (lv_at hl 2 rfl) ?_
      refine lv_aload_n hx hb dX11_numberOf_3 rfl (lv_at hl 0 rfl) ?_
      refine j7_read hx hb hown hK (C := RX11) (T := TX11) (N := 19) rfl hly_13_7 hlk_61 (hh_1.at 0 rfl) dX11_numberOf_4 ?_
      refine va_callFi (A0 := jA base) (H0 := s.heap) (va_runF (hK.1 1 _ rfl).2 (As := []) (rest := [.int v2_1]) ⟨hx, hb, hml, hown, hts⟩ (uJx4a65c_size_8abf5 l dC dI ca base B hB hAp hB1 G0 H_1 op 1 sz) (va_cwF 0 hts (jgF (jWr_27 _ (List.mem_of_getElem? (i := 22) rfl)) (jWr_27 _ (List.mem_of_getElem? (i := 23) rfl)) (jWr_28 _ (List.mem_of_getElem? (i := 0) rfl)) (jWr_2 _ (List.mem_of_getElem? (i := 13) rfl)) (jWr_28 _ (List.mem_of_getElem? (i := 1) rfl))) rfl rfl rfl hK7.2.2.2.2.2.1.1 ⟨by decide, by decide, by decide +kernel⟩ ⟨by rw [← hR]; exact Nat.le_of_ble_eq_true rfl, by rw [← hR]; exact Nat.le_of_ble_eq_true rfl⟩) ⟨fun a U g mk q => by obtain ⟨q0, q1, q2, qK, q10, q11, q12⟩ := q; exact ⟨q0, q1, q2, jG.calling g mk a qK, q10, q11, q12⟩, hh_1.recv (C := RJx4a65c) (T := TJx4a65c) (N := 3) hB1 rfl (by decide) hg_op hK, fun U hU hW => ⟨rfl, hU, hh_1.2.1, hG.step hW hU hh_1.1, hg_op, (hh_1.2.2.1.sub (L1 := [(op, 1, 2, .int sz)]) [1] rfl), trivial⟩⟩ rfl rfl hl.1 rfl (lv_room (Nat.le_of_ble_eq_true rfl)) dX11_numberOf_7 ⟨Nat.zero_le _, Nat.zero_le _⟩) hh_1.1 (fun q _ h => h) (fun q h => h) (fun r_3 u_2 t_2 H_2 locs_2 ht_2 hvm_2 hr_3 hb_2 hz_2 hk_2 hS_2 => ?_)
      rw [ht_2] at hb_2
      obtain ⟨hb_21, hb_22, hb_23, hb_24, hb_25⟩ := hb_2
      have hh_2 : jSt (dC, dI) B base G0 G0 EX11_numberOf s.heap 0 0 [(r0, 13, 7, .ref op), (op, 1, 2, .int sz)] [] [(jFl, jLs dC dI ca G0 3 none)] H_2 locs_2 := ((hh_1.call hb_21 hb_22 hb_23 hb_24 hS_2 rfl (L1 := [(r0, 13, 7, .ref op), (op, 1, 2, .int sz)]) [0, 1] rfl rfl (M1 := []) [] rfl rfl (I1 := [(jFl, jLs dC dI ca G0 3 none)]) [0] rfl rfl).more hb_25)
      clear hh_1 ht_2 hvm_2 hz_2 hk_2 hS_2 hb_21 hb_22 hb_23 hb_24 hb_25
      refine lv_icmp_ge (tgt := 37) hx hb dX11_numberOf_12 (by decide) (fun c_4 => ?_) (fun c_4 => ?_)
      · skip
        have c_4' : v2_1.toInt ≥ r_3.toInt := jb_ge (rfl) (rfl) c_4
        refine lv_iconst (v := (-1)) hx hb dX11_numberOf_37 (by decide) ?_
        rw [hQ]
        exact W.iret (v := (-1)) hx hb hr (fun t ht hW => ⟨⟨(-1), (), rfl, by first | omega | (refine ⟨?_, ?_⟩ <;> (first | omega | rfl | assumption | decide | exact Or.inl rfl | exact Or.inr rfl | (simp only; omega))), ⟨hh_2.rt (M1 := []) [] rfl ht, by rw [ht]; exact hh_2.2.2.2.2.2.2.2.2.sub (L1 := [(jFl, jLs dC dI ca G0 3 none)]) [0] rfl⟩⟩, by rw [ht]; try exact hh_2.1.1, fun q h9 hq => by rw [ht]; try exact hh_2.1.2.1 q h9 hq⟩) hh_2.1.2.2 dX11_numberOf_38
      · skip
        have c_4' : v2_1.toInt < r_3.toInt := jb_ge_n (rfl) (rfl) c_4
        refine lv_aload_n hx hb dX11_numberOf_15 rfl (lv_at hl 0 rfl) ?_
        refine j7_read hx hb hown hK (C := RX11) (T := TX11) (N := 19) rfl hly_13_7 hlk_61 (hh_2.at 0 rfl) dX11_numberOf_16 ?_
        refine lv_iload_n hx hb dX11_numberOf_19 rfl (lv_at hl 2 rfl) ?_
        refine j_callFx (A0 := jA base) (H0 := s.heap) (va_runF (hK.1 1 _ rfl).2 (As := [.int v2_1]) (rest := []) ⟨hx, hb, hml, hown, hts⟩ (uJx4a65c_get_915e3L1 l dC dI ca base B hB hAp hB1 hB3 hB221 G0 H_2 op v2_1 sz) (va_cwF 1 hts (jgF (jWr_28 _ (List.mem_of_getElem? (i := 3) rfl)) (jWr_28 _ (List.mem_of_getElem? (i := 4) rfl)) (jWr_28 _ (List.mem_of_getElem? (i := 5) rfl)) (jWr_2 _ (List.mem_of_getElem? (i := 13) rfl)) (jWr_28 _ (List.mem_of_getElem? (i := 6) rfl))) rfl rfl rfl hK7.2.2.2.2.2.1.2.1 ⟨by decide, by decide, by decide +kernel⟩ ⟨by rw [← hR]; exact Nat.le_of_ble_eq_true rfl, by rw [← hR]; exact Nat.le_of_ble_eq_true rfl⟩) ⟨fun a U g mk q => by obtain ⟨q0, q1, q2, qK, q10, q11, q12, q13, q14⟩ := q; exact ⟨q0, q1, q2, jG.calling g mk a qK, (jK7.calling g mk a q10), q11, q12, q13, q14⟩, hh_2.recv (C := RJx4a65c) (T := TJx4a65c) (N := 3) hB1 rfl (by decide) hg_op hK, fun U hU hW => ⟨rfl, hU, hh_2.2.1, hG.step hW hU hh_2.1, (hK7.step hW hU hh_2.1), hg_op, (hh_2.2.2.1.sub (L1 := [(op, 1, 2, .int sz)]) [1] rfl), (hh_2.2.2.2.2.2.2.2.2.sub (L1 := [(jFl, jLs dC dI ca G0 3 none)]) [0] rfl), by first | omega | (refine ⟨?_, ?_⟩ <;> (first | omega | rfl | assumption | decide | exact Or.inl rfl | exact Or.inr rfl | (simp only; omega)))⟩⟩ rfl rfl hl.1 rfl (lv_room (Nat.le_of_ble_eq_true rfl)) dX11_numberOf_20 ⟨Nat.zero_le _, Nat.zero_le _⟩) hh_2.1 (fun q _ h => h) (fun q h => h) (fun r_6 u_5 t_5 H_5 locs_5 ht_5 hvm_5 hr_6 hb_5 hz_5 hk_5 hS_5 => ?_)
        rw [ht_5] at hb_5
        obtain ⟨hb_5, hbE_5⟩ := hb_5
        obtain ⟨hb_51, hb_52, hb_53, hb_54, hb_55⟩ := hb_5
        have hh_5 : jSt (dC, dI) B base G0 G0 EX11_numberOf s.heap 0 0 [(r0, 13, 7, .ref op), (op, 1, 2, .int sz)] [] [(jFl, jLs dC dI ca G0 3 none)] H_5 locs_5 := (((hh_2.call hb_51 hb_52 hb_53 hb_54 hS_5 rfl (L1 := [(r0, 13, 7, .ref op), (op, 1, 2, .int sz)]) [0, 1] rfl rfl (M1 := []) [] rfl rfl (I1 := []) [] rfl rfl).more hb_55)).addIs hbE_5
        clear hh_2 ht_5 hvm_5 hz_5 hk_5 hS_5 hb_51 hb_52 hb_53 hb_54 hb_55
        clear  hbE_5
        obtain ⟨ret_7, rfl, hg_ret_7⟩ := hr_6
        refine lv_aload_n hx hb dX11_numberOf_25 rfl (lv_at hl 1 rfl) ?_
        refine lv_acmp_ne (rx := (some ret_7)) (ry := (some r1)) (tgt := 31) hx hb dX11_numberOf_26 (by decide) (fun c_8 => ?_) (fun c_8 => ?_)
        · skip
          obtain ⟨z_9, ez_9⟩ : ∃ y : Int32, y = v2_1 + 1 := ⟨_, rfl⟩
          refine lv_iinc (v := z_9) (lv' := [(2, .int z_9), (0, .ref r0), (1, .ref r1)]) hx hb dX11_numberOf_31 hl (k := 2) rfl (by rw [ez_9]; rfl) (by decide) rfl (fun ls hl => ?_)
          have hz_9 : z_9.toInt = v2_1.toInt + 1 := by rw [ez_9]; exact jb_iadd2 (rfl) (by decide) (by omega)
          refine lv_goto (tgt := 2) hx hb dX11_numberOf_34 (by decide) ?_
          exact L2 z_9 _ _ hh_5 (by first | omega | (refine ⟨?_, ?_⟩ <;> (first | omega | rfl | assumption | decide | exact Or.inl rfl | exact Or.inr rfl | (simp only; omega)))) (by omega) _ (lv_sub hl [1, 2, 0] rfl)
        · skip
          refine lv_iload_n hx hb dX11_numberOf_29 rfl (lv_at hl 2 rfl) ?_
          rw [hQ]
          exact W.iret (v := v2_1) hx hb hr (fun t ht hW => ⟨⟨v2_1, (), rfl, by first | omega | (refine ⟨?_, ?_⟩ <;> (first | omega | rfl | assumption | decide | exact Or.inl rfl | exact Or.inr rfl | (simp only; omega))), ⟨hh_5.rt (M1 := []) [] rfl ht, by rw [ht]; exact hh_5.2.2.2.2.2.2.2.2.sub (L1 := [(jFl, jLs dC dI ca G0 3 none)]) [0] rfl⟩⟩, by rw [ht]; try exact hh_5.1.1, fun q h9 hq => by rw [ht]; try exact hh_5.1.2.1 q h9 hq⟩) hh_5.1.2.2 dX11_numberOf_30
  exact L2 (41 - (0 : Int32).toInt : Int).toNat.succ 0 _ _ hh (by first | omega | (refine ⟨?_, ?_⟩ <;> (first | omega | rfl | assumption | decide | exact Or.inl rfl | exact Or.inr rfl | (simp only; omega)))) (by omega) _ (lv_sub hl [1, 2, 0] rfl)
set_option maxHeartbeats 4000000 in
set_option maxRecDepth 20000 in
theorem uX11_numberOfZ (l : Launch) (dC : Nat → ClassId) (dI : Nat → Nat → Nat) (ca : Nat → ClassId) (base : Nat) (B : jF) (hB : jBok B) (hAp : jAp (dC, dI)) (hB1 : ∀ n G a H, B 1 n G a H ↔ jOb (dC, dI) 1 3 (F1 n G) a H) (hB3 : ∀ n G a H, B 3 n G a H ↔ jOb (dC, dI) 3 17 (F3 n G) a H) (hB13 : ∀ n G a H, B 13 n G a H ↔ jOb (dC, dI) 13 19 (F13 n G) a H) (hB221 : ∀ n G a H, B 221 n G a H ↔ jAq (dC, dI) (ca 9) (jQn 3 0) n G a H) (G0 : jT) (H0 : Heap) (r0 : Nat) : Met l yX11_numberOf (jw yX11_numberOf cX11_numberOf 3 (some .int)) ({ frames := 3, cells := 0, slots := 0, locals := 64 }) (va_Pc [.ref r0, .null] (fun U => U.heap = H0 ∧ jX B base G0 [] H0 ∧ jG dC dI ca base U ∧ jK7 dC dI ca base U ∧ G0 r0 = some (13, 0) ∧ jP (dC, dI) G0 H0 [] ∧ jIs (dC, dI) G0 H0 [(jFl, jLs dC dI ca G0 3 none)] ∧ True)) (va_Qi (S := Unit) (fun r u => (True)) (fun u t => (jRt (dC, dI) B base G0 EX11_numberOfZ H0 [] t.heap) ∧ jIs (dC, dI) G0 t.heap [(jFl, jLs dC dI ca G0 3 none)]) (jA base)) 0 0 (jA base) := by
  refine Met.ofW (cc := cX11_numberOf) (maxL := 3) (ret := (some .int)) (by decide) rfl ?_
  intro p e s m args below meth c s₁ Bd hml hv
  obtain ⟨rfl, hH0, hX, hG, hK7, hg_r0, hP0, hI0, hp0⟩ := hv
  have hK := hG.1
  have hx := Bd.exec
  have hb := Bd.bytes
  have hr := Bd.returns
  have hts := atoms_spec (ws := (jw yX11_numberOf cX11_numberOf 3 (some .int))) Bd.pre
  have htw : ∀ w ∈ jWl, w.before _ s = true := fun w h => hts w (List.mem_cons_of_mem _ h)
  have hown : s.vm.findClass RX11 = some m.cls := findClass_of_methodNamed Bd.named
  have hlocks := Bd.notSynchronized
  obtain ⟨Q, hQ⟩ : ∃ Q, Q = MQ below (va_Qi (S := Unit) (fun r u => (True)) (fun u t => (jRt (dC, dI) B base G0 EX11_numberOfZ H0 [] t.heap) ∧ jIs (dC, dI) G0 t.heap [(jFl, jLs dC dI ca G0 3 none)]) (jA base)) ([.ref r0, .null] : List Value).toArray s 0 0 (jA base) := ⟨_, rfl⟩
  rw [← hQ]
  have hl := lv_entry ([.ref r0, .null]) (n := 3) (Nat.le_of_ble_eq_true rfl)
  rw [lg_entry_eq]
  generalize (lg_sl ([.ref r0, .null]) ++ List.replicate (3 - (lg_sl ([.ref r0, .null])).length) Slot.unset).toArray = ls at hl ⊢
  have hl : lv_has ls 3 [(0, .ref r0), (1, .null)] := hl
  generalize hR : (headSpec (jw yX11_numberOf cX11_numberOf 3 (some .int)) ({ frames := 3, cells := 0, slots := 0, locals := 64 })).room = R
  subst hH0
  have hh : jSt (dC, dI) B base G0 G0 EX11_numberOfZ s.heap 0 0 [] [] [(jFl, jLs dC dI ca G0 3 none)] s.heap [] := jSt.start hX hP0 jMc.nil hI0
  clear hX hP0
  have hkm1 : ((-1) : Int32).toInt = (-1) := by decide
  have hk0 : (0 : Int32).toInt = 0 := by decide
  have hk1 : (1 : Int32).toInt = 1 := by decide
  have hly_13_7 := htw (u_lay RX11 TX11 7) (jWc_wsX110 _ (u_in_lay (by decide)))
  have hlk_61 := (htw (.fieldLink RX11 61 "ProofServer" "open" "Ljava/util/List;") (jWr_2 _ (List.mem_of_getElem? (i := 14) rfl)))
  refine lv_iconst (v := 0) hx hb dX11_numberOf_0 (by decide) ?_
  refine lv_istore_n (lv' := [(2, .int 0), (0, .ref r0), (1, .null)]) hx hb dX11_numberOf_1 rfl hl (by decide) rfl (fun ls hl => ?_)
  have L2 : ∀ (N : Nat) (v2_1 : Int32) (H_1 : Heap) (locs_1 : List Loc), jSt (dC, dI) B base G0 G0 EX11_numberOfZ s.heap 0 0 [] [] [(jFl, jLs dC dI ca G0 3 none)] H_1 locs_1 → (0 ≤ v2_1.toInt ∧ v2_1.toInt ≤ 40) → (41 - v2_1.toInt : Int) < N → ∀ ls : Array Slot, lv_has ls 3 [(0, .ref r0), (1, .null), (2, .int v2_1)] → W p l e R s m ([.ref r0, .null] : List Value).toArray below meth c H_1 locs_1 0 0 Q (F0 m 2 ls []) := by
    intro N
    induction N with
    | zero => intro v2_1 H_1 locs_1 hh_1  hi_1 hm; exact absurd hm (by omega)
    | succ N L2 =>
      intro v2_1 H_1 locs_1 hh_1  hi_1 hm_1 ls hl
      obtain ⟨hi_1_0, hi_1_1⟩ := hi_1
      refine lv_iload_n hx hb dX11_numberOf_2 rfl (lv_at hl 2 rfl) ?_
      refine lv_aload_n hx hb dX11_numberOf_3 rfl (lv_at hl 0 rfl) ?_
      obtain ⟨v_2, hv_2, hh_3⟩ := hh_1.pin (C := RX11) (T := TX11) (N := 19) hB13 rfl (by decide) hg_r0 (i := 7) (by decide) rfl
      clear hh_1
      obtain ⟨open_4, rfl, hg_open_4⟩ := hv_2
      refine j7_read hx hb hown hK (C := RX11) (T := TX11) (N := 19) rfl hly_13_7 hlk_61 (hh_3.at 0 rfl) dX11_numberOf_4 ?_
      obtain ⟨v_7, hv_7, hh_8⟩ := hh_3.pin (C := RJx4a65c) (T := TJx4a65c) (N := 3) hB1 rfl (by decide) hg_open_4 (i := 2) (by decide) rfl
      obtain ⟨size_9, rfl, hlosize_9, hhisize_9⟩ := hv_7
      refine va_callFi (A0 := jA base) (H0 := s.heap) (va_runF (hK.1 1 _ rfl).2 (As := []) (rest := [.int v2_1]) ⟨hx, hb, hml, hown, hts⟩ (uJx4a65c_size_8abf5 l dC dI ca base B hB hAp hB1 G0 H_1 open_4 1 size_9) (va_cwF 0 hts (jgF (jWr_27 _ (List.mem_of_getElem? (i := 22) rfl)) (jWr_27 _ (List.mem_of_getElem? (i := 23) rfl)) (jWr_28 _ (List.mem_of_getElem? (i := 0) rfl)) (jWr_2 _ (List.mem_of_getElem? (i := 13) rfl)) (jWr_28 _ (List.mem_of_getElem? (i := 1) rfl))) rfl rfl rfl hK7.2.2.2.2.2.1.1 ⟨by decide, by decide, by decide +kernel⟩ ⟨by rw [← hR]; exact Nat.le_of_ble_eq_true rfl, by rw [← hR]; exact Nat.le_of_ble_eq_true rfl⟩) ⟨fun a U g mk q => by obtain ⟨q0, q1, q2, qK, q10, q11, q12⟩ := q; exact ⟨q0, q1, q2, jG.calling g mk a qK, q10, q11, q12⟩, hh_8.recv (C := RJx4a65c) (T := TJx4a65c) (N := 3) hB1 rfl (by decide) hg_open_4 hK, fun U hU hW => ⟨rfl, hU, hh_8.2.1, hG.step hW hU hh_8.1, hg_open_4, (hh_8.2.2.1.sub (L1 := [(open_4, 1, 2, .int size_9)]) [0] rfl), trivial⟩⟩ rfl rfl hl.1 rfl (lv_room (Nat.le_of_ble_eq_true rfl)) dX11_numberOf_7 ⟨Nat.zero_le _, Nat.zero_le _⟩) hh_8.1 (fun q _ h => h) (fun q h => h) (fun r_6 u_5 t_5 H_5 locs_5 ht_5 hvm_5 hr_6 hb_5 hz_5 hk_5 hS_5 => ?_)
      rw [ht_5] at hb_5
      obtain ⟨hb_51, hb_52, hb_53, hb_54, hb_55⟩ := hb_5
      have hh_5 : jSt (dC, dI) B base G0 G0 EX11_numberOfZ s.heap 0 0 [(open_4, 1, 2, .int size_9), (r0, 13, 7, .ref open_4)] [] [(jFl, jLs dC dI ca G0 3 none)] H_5 locs_5 := ((hh_8.call hb_51 hb_52 hb_53 hb_54 hS_5 rfl (L1 := [(open_4, 1, 2, .int size_9), (r0, 13, 7, .ref open_4)]) [0, 1] rfl rfl (M1 := []) [] rfl rfl (I1 := [(jFl, jLs dC dI ca G0 3 none)]) [0] rfl rfl).more hb_55)
      clear hh_8 ht_5 hvm_5 hz_5 hk_5 hS_5 hb_51 hb_52 hb_53 hb_54 hb_55
      refine lv_icmp_ge (tgt := 37) hx hb dX11_numberOf_12 (by decide) (fun c_10 => ?_) (fun c_10 => ?_)
      · skip
        have c_10' : v2_1.toInt ≥ r_6.toInt := jb_ge (rfl) (rfl) c_10
        refine lv_iconst (v := (-1)) hx hb dX11_numberOf_37 (by decide) ?_
        rw [hQ]
        exact W.iret (v := (-1)) hx hb hr (fun t ht hW => ⟨⟨(-1), (), rfl, trivial, ⟨hh_5.rt (M1 := []) [] rfl ht, by rw [ht]; exact hh_5.2.2.2.2.2.2.2.2.sub (L1 := [(jFl, jLs dC dI ca G0 3 none)]) [0] rfl⟩⟩, by rw [ht]; try exact hh_5.1.1, fun q h9 hq => by rw [ht]; try exact hh_5.1.2.1 q h9 hq⟩) hh_5.1.2.2 dX11_numberOf_38
      · skip
        have c_10' : v2_1.toInt < r_6.toInt := jb_ge_n (rfl) (rfl) c_10
        refine lv_aload_n hx hb dX11_numberOf_15 rfl (lv_at hl 0 rfl) ?_
        refine j7_read hx hb hown hK (C := RX11) (T := TX11) (N := 19) rfl hly_13_7 hlk_61 (hh_5.at 1 rfl) dX11_numberOf_16 ?_
        refine lv_iload_n hx hb dX11_numberOf_19 rfl (lv_at hl 2 rfl) ?_
        refine j_callFx (A0 := jA base) (H0 := s.heap) (va_runF (hK.1 1 _ rfl).2 (As := [.int v2_1]) (rest := []) ⟨hx, hb, hml, hown, hts⟩ (uJx4a65c_get_915e3L1 l dC dI ca base B hB hAp hB1 hB3 hB221 G0 H_5 open_4 v2_1 size_9) (va_cwF 1 hts (jgF (jWr_28 _ (List.mem_of_getElem? (i := 3) rfl)) (jWr_28 _ (List.mem_of_getElem? (i := 4) rfl)) (jWr_28 _ (List.mem_of_getElem? (i := 5) rfl)) (jWr_2 _ (List.mem_of_getElem? (i := 13) rfl)) (jWr_28 _ (List.mem_of_getElem? (i := 6) rfl))) rfl rfl rfl hK7.2.2.2.2.2.1.2.1 ⟨by decide, by decide, by decide +kernel⟩ ⟨by rw [← hR]; exact Nat.le_of_ble_eq_true rfl, by rw [← hR]; exact Nat.le_of_ble_eq_true rfl⟩) ⟨fun a U g mk q => by obtain ⟨q0, q1, q2, qK, q10, q11, q12, q13, q14⟩ := q; exact ⟨q0, q1, q2, jG.calling g mk a qK, (jK7.calling g mk a q10), q11, q12, q13, q14⟩, hh_5.recv (C := RJx4a65c) (T := TJx4a65c) (N := 3) hB1 rfl (by decide) hg_open_4 hK, fun U hU hW => ⟨rfl, hU, hh_5.2.1, hG.step hW hU hh_5.1, (hK7.step hW hU hh_5.1), hg_open_4, (hh_5.2.2.1.sub (L1 := [(open_4, 1, 2, .int size_9)]) [0] rfl), (hh_5.2.2.2.2.2.2.2.2.sub (L1 := [(jFl, jLs dC dI ca G0 3 none)]) [0] rfl), by first | omega | (refine ⟨?_, ?_⟩ <;> (first | omega | rfl | assumption | decide | exact Or.inl rfl | exact Or.inr rfl | (simp only; omega)))⟩⟩ rfl rfl hl.1 rfl (lv_room (Nat.le_of_ble_eq_true rfl)) dX11_numberOf_20 ⟨Nat.zero_le _, Nat.zero_le _⟩) hh_5.1 (fun q _ h => h) (fun q h => h) (fun r_12 u_11 t_11 H_11 locs_11 ht_11 hvm_11 hr_12 hb_11 hz_11 hk_11 hS_11 => ?_)
        rw [ht_11] at hb_11
        obtain ⟨hb_11, hbE_11⟩ := hb_11
        obtain ⟨hb_111, hb_112, hb_113, hb_114, hb_115⟩ := hb_11
        have hh_11 : jSt (dC, dI) B base G0 G0 EX11_numberOfZ s.heap 0 0 [(open_4, 1, 2, .int size_9), (r0, 13, 7, .ref open_4)] [] [(jFl, jLs dC dI ca G0 3 none)] H_11 locs_11 := (((hh_5.call hb_111 hb_112 hb_113 hb_114 hS_11 rfl (L1 := [(open_4, 1, 2, .int size_9), (r0, 13, 7, .ref open_4)]) [0, 1] rfl rfl (M1 := []) [] rfl rfl (I1 := []) [] rfl rfl).more hb_115)).addIs hbE_11
        clear hh_5 ht_11 hvm_11 hz_11 hk_11 hS_11 hb_111 hb_112 hb_113 hb_114 hb_115
        clear  hbE_11
        obtain ⟨ret_13, rfl, hg_ret_13⟩ := hr_12
        refine j7_nld_n hx hb dX11_numberOf_25 rfl (lv_at hl 1 rfl) ?_
        refine lv_acmp_ne (rx := (some ret_13)) (ry := none) (tgt := 31) hx hb dX11_numberOf_26 (by decide) (fun c_14 => ?_) (fun c_14 => ?_)
        · skip
          obtain ⟨z_15, ez_15⟩ : ∃ y : Int32, y = v2_1 + 1 := ⟨_, rfl⟩
          refine lv_iinc (v := z_15) (lv' := [(2, .int z_15), (0, .ref r0), (1, .null)]) hx hb dX11_numberOf_31 hl (k := 2) rfl (by rw [ez_15]; rfl) (by decide) rfl (fun ls hl => ?_)
          have hz_15 : z_15.toInt = v2_1.toInt + 1 := by rw [ez_15]; exact jb_iadd2 (rfl) (by decide) (by omega)
          refine lv_goto (tgt := 2) hx hb dX11_numberOf_34 (by decide) ?_
          exact L2 z_15 _ _ (hh_11.sub (L1 := []) [] rfl (M1 := []) [] rfl (I1 := [(jFl, jLs dC dI ca G0 3 none)]) [0] rfl) (by first | omega | (refine ⟨?_, ?_⟩ <;> (first | omega | rfl | assumption | decide | exact Or.inl rfl | exact Or.inr rfl | (simp only; omega)))) (by omega) _ (lv_sub hl [1, 2, 0] rfl)
        · skip
          cases c_14
  exact L2 (41 - (0 : Int32).toInt : Int).toNat.succ 0 _ _ hh (by first | omega | (refine ⟨?_, ?_⟩ <;> (first | omega | rfl | assumption | decide | exact Or.inl rfl | exact Or.inr rfl | (simp only; omega)))) (by omega) _ (lv_sub hl [1, 2, 0] rfl)
end
section
theorem dX11_closeDocument_0 : decode cX11_closeDocument 0 = .ok (.aload_n 0, 1) := by decide +kernel
theorem dX11_closeDocument_1 : decode cX11_closeDocument 1 = .ok (.invokevirtual 359, 3) := by decide +kernel
theorem dX11_closeDocument_4 : decode cX11_closeDocument 4 = .ok (.astore_n 1, 1) := by decide +kernel
theorem dX11_closeDocument_5 : decode cX11_closeDocument 5 = .ok (.aload_n 0, 1) := by decide +kernel
theorem dX11_closeDocument_6 : decode cX11_closeDocument 6 = .ok (.aload_n 1, 1) := by decide +kernel
theorem dX11_closeDocument_7 : decode cX11_closeDocument 7 = .ok (.invokevirtual 154, 3) := by decide +kernel
theorem dX11_closeDocument_10 : decode cX11_closeDocument 10 = .ok (.istore_n 2, 1) := by decide +kernel
theorem dX11_closeDocument_11 : decode cX11_closeDocument 11 = .ok (.aload_n 1, 1) := by decide +kernel
theorem dX11_closeDocument_12 : decode cX11_closeDocument 12 = .ok (.ifnull 7, 3) := by decide +kernel
theorem dX11_closeDocument_15 : decode cX11_closeDocument 15 = .ok (.iload_n 2, 1) := by decide +kernel
theorem dX11_closeDocument_16 : decode cX11_closeDocument 16 = .ok (.ifCond .ge 4, 3) := by decide +kernel
theorem dX11_closeDocument_19 : decode cX11_closeDocument 19 = .ok (.return_, 1) := by decide +kernel
theorem dX11_closeDocument_20 : decode cX11_closeDocument 20 = .ok (.aload_n 0, 1) := by decide +kernel
theorem dX11_closeDocument_21 : decode cX11_closeDocument 21 = .ok (.aload_n 1, 1) := by decide +kernel
theorem dX11_closeDocument_22 : decode cX11_closeDocument 22 = .ok (.invokevirtual 403, 3) := by decide +kernel
theorem dX11_closeDocument_25 : decode cX11_closeDocument 25 = .ok (.aload_n 0, 1) := by decide +kernel
theorem dX11_closeDocument_26 : decode cX11_closeDocument 26 = .ok (.aload_n 1, 1) := by decide +kernel
theorem dX11_closeDocument_27 : decode cX11_closeDocument 27 = .ok (.invokevirtual 397, 3) := by decide +kernel
theorem dX11_closeDocument_30 : decode cX11_closeDocument 30 = .ok (.aload_n 0, 1) := by decide +kernel
theorem dX11_closeDocument_31 : decode cX11_closeDocument 31 = .ok (.getfield 61, 3) := by decide +kernel
theorem dX11_closeDocument_34 : decode cX11_closeDocument 34 = .ok (.iload_n 2, 1) := by decide +kernel
theorem dX11_closeDocument_35 : decode cX11_closeDocument 35 = .ok (.invokeinterface 423 2, 5) := by decide +kernel
theorem dX11_closeDocument_40 : decode cX11_closeDocument 40 = .ok (.pop, 1) := by decide +kernel
theorem dX11_closeDocument_41 : decode cX11_closeDocument 41 = .ok (.aload_n 0, 1) := by decide +kernel
theorem dX11_closeDocument_42 : decode cX11_closeDocument 42 = .ok (.aload_n 1, 1) := by decide +kernel
theorem dX11_closeDocument_43 : decode cX11_closeDocument 43 = .ok (.iconst 0, 1) := by decide +kernel
theorem dX11_closeDocument_44 : decode cX11_closeDocument 44 = .ok (.invokevirtual 378, 3) := by decide +kernel
theorem dX11_closeDocument_47 : decode cX11_closeDocument 47 = .ok (.return_, 1) := by decide +kernel
end
section
theorem dX11_cancelRequest_0 : decode cX11_cancelRequest 0 = .ok (.new 115, 3) := by decide +kernel
theorem dX11_cancelRequest_3 : decode cX11_cancelRequest 3 = .ok (.dup, 1) := by decide +kernel
theorem dX11_cancelRequest_4 : decode cX11_cancelRequest 4 = .ok (.aload_n 0, 1) := by decide +kernel
theorem dX11_cancelRequest_5 : decode cX11_cancelRequest 5 = .ok (.getfield 28, 3) := by decide +kernel
theorem dX11_cancelRequest_8 : decode cX11_cancelRequest 8 = .ok (.aload_n 0, 1) := by decide +kernel
theorem dX11_cancelRequest_9 : decode cX11_cancelRequest 9 = .ok (.getfield 28, 3) := by decide +kernel
theorem dX11_cancelRequest_12 : decode cX11_cancelRequest 12 = .ok (.aload_n 0, 1) := by decide +kernel
theorem dX11_cancelRequest_13 : decode cX11_cancelRequest 13 = .ok (.getfield 28, 3) := by decide +kernel
theorem dX11_cancelRequest_16 : decode cX11_cancelRequest 16 = .ok (.iconst 0, 1) := by decide +kernel
theorem dX11_cancelRequest_17 : decode cX11_cancelRequest 17 = .ok (.ldc_w 271, 3) := by decide +kernel
theorem dX11_cancelRequest_20 : decode cX11_cancelRequest 20 = .ok (.invokevirtual 260, 3) := by decide +kernel
theorem dX11_cancelRequest_23 : decode cX11_cancelRequest 23 = .ok (.ldc_w 259, 3) := by decide +kernel
theorem dX11_cancelRequest_26 : decode cX11_cancelRequest 26 = .ok (.invokevirtual 260, 3) := by decide +kernel
theorem dX11_cancelRequest_29 : decode cX11_cancelRequest 29 = .ok (.invokespecial 264, 3) := by decide +kernel
theorem dX11_cancelRequest_32 : decode cX11_cancelRequest 32 = .ok (.astore_n 1, 1) := by decide +kernel
theorem dX11_cancelRequest_33 : decode cX11_cancelRequest 33 = .ok (.iconst 0, 1) := by decide +kernel
theorem dX11_cancelRequest_34 : decode cX11_cancelRequest 34 = .ok (.istore_n 2, 1) := by decide +kernel
theorem dX11_cancelRequest_35 : decode cX11_cancelRequest 35 = .ok (.iload_n 2, 1) := by decide +kernel
theorem dX11_cancelRequest_36 : decode cX11_cancelRequest 36 = .ok (.aload_n 0, 1) := by decide +kernel
theorem dX11_cancelRequest_37 : decode cX11_cancelRequest 37 = .ok (.getfield 65, 3) := by decide +kernel
theorem dX11_cancelRequest_40 : decode cX11_cancelRequest 40 = .ok (.invokeinterface 142 1, 5) := by decide +kernel
theorem dX11_cancelRequest_45 : decode cX11_cancelRequest 45 = .ok (.if_icmp .ge 50, 3) := by decide +kernel
theorem dX11_cancelRequest_48 : decode cX11_cancelRequest 48 = .ok (.aload_n 0, 1) := by decide +kernel
theorem dX11_cancelRequest_49 : decode cX11_cancelRequest 49 = .ok (.getfield 65, 3) := by decide +kernel
theorem dX11_cancelRequest_52 : decode cX11_cancelRequest 52 = .ok (.iload_n 2, 1) := by decide +kernel
theorem dX11_cancelRequest_53 : decode cX11_cancelRequest 53 = .ok (.invokeinterface 249 2, 5) := by decide +kernel
theorem dX11_cancelRequest_58 : decode cX11_cancelRequest 58 = .ok (.checkcast 115, 3) := by decide +kernel
theorem dX11_cancelRequest_61 : decode cX11_cancelRequest 61 = .ok (.aload_n 1, 1) := by decide +kernel
theorem dX11_cancelRequest_62 : decode cX11_cancelRequest 62 = .ok (.invokevirtual 426, 3) := by decide +kernel
theorem dX11_cancelRequest_65 : decode cX11_cancelRequest 65 = .ok (.ifCond .eq 24, 3) := by decide +kernel
theorem dX11_cancelRequest_68 : decode cX11_cancelRequest 68 = .ok (.aload_n 0, 1) := by decide +kernel
theorem dX11_cancelRequest_69 : decode cX11_cancelRequest 69 = .ok (.aload_n 0, 1) := by decide +kernel
theorem dX11_cancelRequest_70 : decode cX11_cancelRequest 70 = .ok (.getfield 65, 3) := by decide +kernel
theorem dX11_cancelRequest_73 : decode cX11_cancelRequest 73 = .ok (.iload_n 2, 1) := by decide +kernel
theorem dX11_cancelRequest_74 : decode cX11_cancelRequest 74 = .ok (.invokeinterface 423 2, 5) := by decide +kernel
theorem dX11_cancelRequest_79 : decode cX11_cancelRequest 79 = .ok (.checkcast 115, 3) := by decide +kernel
theorem dX11_cancelRequest_82 : decode cX11_cancelRequest 82 = .ok (.ldc_w 429, 3) := by decide +kernel
theorem dX11_cancelRequest_85 : decode cX11_cancelRequest 85 = .ok (.invokevirtual 267, 3) := by decide +kernel
theorem dX11_cancelRequest_88 : decode cX11_cancelRequest 88 = .ok (.return_, 1) := by decide +kernel
theorem dX11_cancelRequest_89 : decode cX11_cancelRequest 89 = .ok (.iinc 2 1, 3) := by decide +kernel
theorem dX11_cancelRequest_92 : decode cX11_cancelRequest 92 = .ok (.goto (-57), 3) := by decide +kernel
theorem dX11_cancelRequest_95 : decode cX11_cancelRequest 95 = .ok (.return_, 1) := by decide +kernel
def EX11_cancelRequest : List (Nat × Nat) := [(1, 0), (1, 2), (2, 0), (2, 1), (13, 14), (101, 0), (196, 0), (221, 0), (222, 0), (223, 0)]
set_option maxHeartbeats 4000000 in
set_option maxRecDepth 20000 in
theorem uX11_cancelRequest (l : Launch) (dC : Nat → ClassId) (dI : Nat → Nat → Nat) (ca : Nat → ClassId) (base : Nat) (B : jF) (hB : jBok B) (hAp : jAp (dC, dI)) (hB1 : ∀ n G a H, B 1 n G a H ↔ jOb (dC, dI) 1 3 (F1 n G) a H) (hB2 : ∀ n G a H, B 2 n G a H ↔ jOb (dC, dI) 2 2 (F2 n G) a H) (hB3 : ∀ n G a H, B 3 n G a H ↔ jOb (dC, dI) 3 17 (F3 n G) a H) (hB4 : ∀ n G a H, B 4 n G a H ↔ jOb (dC, dI) 4 12 (F4 n G) a H) (hB6 : ∀ n G a H, B 6 n G a H ↔ jOb (dC, dI) 6 12 (F6 n G) a H) (hB10 : ∀ n G a H, B 10 n G a H ↔ jOb (dC, dI) 10 5 (F10 n G) a H) (hB13 : ∀ n G a H, B 13 n G a H ↔ jOb (dC, dI) 13 19 (F13 n G) a H) (hB101 : ∀ n G a H, B 101 n G a H ↔ jAr (dC, dI) (ca 1) (fun j z => True) n a H) (hB140 : ∀ n G a H, B 140 n G a H ↔ jAr (dC, dI) (ca 1) (fun j z => True) n a H) (hB141 : ∀ n G a H, B 141 n G a H ↔ jAr (dC, dI) (ca 1) (fun j z => True) n a H) (hB142 : ∀ n G a H, B 142 n G a H ↔ jAr (dC, dI) (ca 1) (fun j z => True) n a H) (hB143 : ∀ n G a H, B 143 n G a H ↔ jAr (dC, dI) (ca 1) (fun j z => True) n a H) (hB144 : ∀ n G a H, B 144 n G a H ↔ jAr (dC, dI) (ca 1) (fun j z => 0 ≤ z.toInt ∧ z.toInt ≤ 3000) n a H) (hB145 : ∀ n G a H, B 145 n G a H ↔ jAr (dC, dI) (ca 1) (fun j z => True) n a H) (hB146 : ∀ n G a H, B 146 n G a H ↔ jAr (dC, dI) (ca 1) (fun j z => True) n a H) (hB196 : ∀ n G a H, B 196 n G a H ↔ jAr (dC, dI) (ca 0) (fun j z => jBf j z) n a H) (hB222 : ∀ n G a H, B 222 n G a H ↔ jAq (dC, dI) (ca 9) (jQn 10 0) n G a H) (G0 : jT) (H0 : Heap) (r0 : Nat) (bo : Nat) (pc : Int32) (pa : Nat) (n_pa : Nat) (ou : Nat) (js : Nat) (pv : Int32) (pu : Int32) (wk : Nat) (wi : Nat) (wz : Nat) (jks : Nat) (fk : Nat → Int32) (fi : Nat → Int32) (fz : Nat → Int32) (fs : Nat → Int32) (LC LS : Nat) : Met l yX11_cancelRequest (jw yX11_cancelRequest cX11_cancelRequest 3 none) ({ frames := 7, cells := LC - H0.size, slots := LS - jTot H0, locals := 214 }) (va_Pc [.ref r0] (fun U => U.heap = H0 ∧ jX B base G0 [] H0 ∧ jG dC dI ca base U ∧ jK5 dC dI ca U ∧ jK7 dC dI ca base U ∧ G0 r0 = some (13, 0) ∧ G0 bo = some (2, 0) ∧ G0 pa = some (196, n_pa) ∧ G0 ou = some (2, 20000) ∧ G0 js = some (6, 0) ∧ G0 wk = some (140, 1502) ∧ G0 wi = some (141, 1502) ∧ G0 wz = some (142, 1502) ∧ G0 jks = some (145, 1502) ∧ jP (dC, dI) G0 H0 [(r0, 13, 4, .ref bo), (bo, 2, 1, .int pc), (bo, 2, 0, .ref pa), (r0, 13, 3, .ref ou), (r0, 13, 2, .ref js), (js, 6, 7, .int pv), (js, 6, 8, .int pu), (js, 6, 0, .ref wk), (js, 6, 1, .ref wi), (js, 6, 2, .ref wz), (js, 6, 5, .ref jks)] ∧ jMc (dC, dI) G0 H0 [(wk, 140, 1502, ca 1, fk), (wi, 141, 1502, ca 1, fi), (wz, 142, 1502, ca 1, fz), (jks, 145, 1502, ca 1, fs)] ∧ jIs (dC, dI) G0 H0 [(jFy, jYb dC dI G0), (jFl, jLs dC dI ca G0 3 none)] ∧ H0.size + (1048576 - n_pa) / 16 + 20 ≤ LC ∧ jTot H0 + 2 * (1048576 - n_pa) + 3400 ≤ LS ∧ 0 ≤ pc.toInt ∧ pc.toInt ≤ n_pa ∧ 16 ≤ n_pa ∧ n_pa ≤ 1048576 ∧ jPw n_pa ∧ 0 ≤ pv.toInt ∧ pv.toInt ≤ 1502 ∧ 0 ≤ pu.toInt ∧ pu.toInt ≤ 3000 ∧ jJq fk fi fz pv.toInt ∧ jJu fk fz pv.toInt pu.toInt)) (va_Qv (S := Int32 × Nat × Nat × jT) (fun u => 0 ≤ u.1.toInt ∧ u.1.toInt ≤ u.2.2.1 ∧ n_pa ≤ u.2.2.1 ∧ u.2.2.1 ≤ 1048576 ∧ jPw u.2.2.1) (fun u t => jRa (dC, dI) B base G0 u.2.2.2 EX11_cancelRequest H0 ((u.2.2.1 - n_pa) / 16 + 11) (2 * (u.2.2.1 - n_pa) + 267) [(bo, 2, 1, .int u.1), (bo, 2, 0, .ref u.2.1)] t.heap ∧ u.2.2.2 u.2.1 = some (196, u.2.2.1) ∧ (jNk [0, 1, 3, 4, 5, 6, 7, 8, 9, 11, 12, 13, 14, 15, 16]) G0 u.2.2.2 ∧ jOl (dC, dI) G0 2 [bo, ou] H0 t.heap ∧ jIs (dC, dI) u.2.2.2 t.heap [(jFy, jYb dC dI u.2.2.2), (jFl, jLs dC dI ca u.2.2.2 3 none)]) (jA base)) (LC - H0.size) (LS - jTot H0) (jA base) := by
  refine Met.ofW (cc := cX11_cancelRequest) (maxL := 3) (ret := none) (by decide) rfl ?_
  intro p e s m args below meth c s₁ Bd hml hv
  obtain ⟨rfl, hH0, hX, hG, hK5, hK7, hg_r0, hg_bo, hg_pa, hg_ou, hg_js, hg_wk, hg_wi, hg_wz, hg_jks, hP0, hM0, hI0, hLC0, hLS0, hp0, hp1, hp2, hp3, hp4, hp5, hp6, hp7, hp8, hp9, hp10⟩ := hv
  have hK := hG.1
  have hx := Bd.exec
  have hb := Bd.bytes
  have hr := Bd.returns
  have hts := atoms_spec (ws := (jw yX11_cancelRequest cX11_cancelRequest 3 none)) Bd.pre
  have htw : ∀ w ∈ jWl, w.before _ s = true := fun w h => hts w (List.mem_cons_of_mem _ h)
  have hown : s.vm.findClass RX11 = some m.cls := findClass_of_methodNamed Bd.named
  have hlocks := Bd.notSynchronized
  obtain ⟨Q, hQ⟩ : ∃ Q, Q = MQ below (va_Qv (S := Int32 × Nat × Nat × jT) (fun u => 0 ≤ u.1.toInt ∧ u.1.toInt ≤ u.2.2.1 ∧ n_pa ≤ u.2.2.1 ∧ u.2.2.1 ≤ 1048576 ∧ jPw u.2.2.1) (fun u t => jRa (dC, dI) B base G0 u.2.2.2 EX11_cancelRequest H0 ((u.2.2.1 - n_pa) / 16 + 11) (2 * (u.2.2.1 - n_pa) + 267) [(bo, 2, 1, .int u.1), (bo, 2, 0, .ref u.2.1)] t.heap ∧ u.2.2.2 u.2.1 = some (196, u.2.2.1) ∧ (jNk [0, 1, 3, 4, 5, 6, 7, 8, 9, 11, 12, 13, 14, 15, 16]) G0 u.2.2.2 ∧ jOl (dC, dI) G0 2 [bo, ou] H0 t.heap ∧ jIs (dC, dI) u.2.2.2 t.heap [(jFy, jYb dC dI u.2.2.2), (jFl, jLs dC dI ca u.2.2.2 3 none)]) (jA base)) ([.ref r0] : List Value).toArray s (LC - H0.size) (LS - jTot H0) (jA base) := ⟨_, rfl⟩
  rw [← hQ]
  have hl := lv_entry ([.ref r0]) (n := 3) (Nat.le_of_ble_eq_true rfl)
  rw [lg_entry_eq]
  generalize (lg_sl ([.ref r0]) ++ List.replicate (3 - (lg_sl ([.ref r0])).length) Slot.unset).toArray = ls at hl ⊢
  have hl : lv_has ls 3 [(0, .ref r0)] := hl
  generalize hR : (headSpec (jw yX11_cancelRequest cX11_cancelRequest 3 none) ({ frames := 7, cells := LC - H0.size, slots := LS - jTot H0, locals := 214 })).room = R
  subst hH0
  have hh : jSt (dC, dI) B base G0 G0 EX11_cancelRequest s.heap 0 0 [(r0, 13, 4, .ref bo), (bo, 2, 1, .int pc), (bo, 2, 0, .ref pa), (r0, 13, 3, .ref ou), (r0, 13, 2, .ref js), (js, 6, 7, .int pv), (js, 6, 8, .int pu), (js, 6, 0, .ref wk), (js, 6, 1, .ref wi), (js, 6, 2, .ref wz), (js, 6, 5, .ref jks)] [(wk, 140, 1502, ca 1, fk), (wi, 141, 1502, ca 1, fi), (wz, 142, 1502, ca 1, fz), (jks, 145, 1502, ca 1, fs)] [(jFy, jYb dC dI G0), (jFl, jLs dC dI ca G0 3 none)] s.heap [] := jSt.start hX hP0 hM0 hI0
  clear hX hP0
  have hkm32800 : ((-32800) : Int32).toInt = (-32800) := by decide
  have hk0 : (0 : Int32).toInt = 0 := by decide
  have hk1 : (1 : Int32).toInt = 1 := by decide
  have hly_13_2 := htw (u_lay RX11 TX11 2) (jWc_wsX110 _ (u_in_lay (by decide)))
  have hly_13_8 := htw (u_lay RX11 TX11 8) (jWc_wsX110 _ (u_in_lay (by decide)))
  have hlk_28 := (htw (.fieldLink RX11 28 "ProofServer" "json" "LProofServer$Json;") (jWr_1 _ (List.mem_of_getElem? (i := 23) rfl)))
  obtain ⟨str271, rstr271, hstr2710⟩ := hG.str (o := RX11) (k := 271) (tx := "params") (List.mem_of_getElem? (i := 852) (by decide +kernel))
  have hstr271 : jStr base str271 6 s s.heap := hstr2710
  obtain ⟨str259, rstr259, hstr2590⟩ := hG.str (o := RX11) (k := 259) (tx := "id") (List.mem_of_getElem? (i := 730) (by decide +kernel))
  have hstr259 : jStr base str259 2 s s.heap := hstr2590
  have hlk_65 := (htw (.fieldLink RX11 65 "ProofServer" "waiting" "Ljava/util/List;") (jWr_2 _ (List.mem_of_getElem? (i := 15) rfl)))
  have hcs_429 := htw (.constant RX11 429 (-32800)) (jWr_43 _ (List.mem_of_getElem? (i := 22) rfl))
  have hbs : base ≤ s.heap.size := Nat.le_of_lt (Nat.lt_of_le_of_lt (hh.ab hg_r0).1 (hh.ab hg_r0).2)
  have hRc : R.cells = LC - s.heap.size := by rw [← hR]; rfl
  have hRs : R.slots = LS - jTot s.heap := by rw [← hR]; rfl
  have hh_1 := hh.addI (jOl.ie (dC := dC) (dI := dI) (G0 := G0) (k := 2) (rs := [bo, ou]) (H0 := s.heap) (F := [(2, 0), (2, 1)]) (C := RX0) (T := TX0) (N := 2) rfl (by decide) hh.2.2.2.2.1 (jOl.rf))
  clear hh
  have hsz_2 := hh_1.2.2.2.2.2.1
  have htt_2 := hh_1.2.2.2.2.2.2.1
  refine j7_newo (k := 10) (C := RX8) (T := TX8) (N := 5) (fs := [.null, .null, .int 0, .int 0, .int 0]) hx hb htw jWc_wsX80 (fun k => ([(.object "ProofServer$Bytes"), (.object "ProofServer$Document"), .int, .boolean, .int] : List FieldType).getD k .int) (by decide +kernel) hown (htw (.classLink RX11 115 RX8) (jWr_19 _ (List.mem_of_getElem? (i := 3) rfl))) (htw (.instantiable RX8 5) (jWr_19 _ (List.mem_of_getElem? (i := 4) rfl))) (htw (.initialized RX8) (jWr_19 _ (List.mem_of_getElem? (i := 5) rfl))) hK rfl (fun j hj => by rcases (by omega : j = 0 ∨ j = 1 ∨ j = 2 ∨ j = 3 ∨ j = 4) with rfl | rfl | rfl | rfl | rfl <;> rfl) hh_1 hB (by rw [hRc]; omega) (by rw [hRs]; omega) dX11_cancelRequest_0 (fun H_2 hraw_2 hfr_2 hnr_2 hh_2 => ?_)
  have hke_2 : jKe G0 G0 s.heap H_2 := jKe.raw hfr_2
  have hbr_2 : base ≤ s.heap.size := Nat.le_trans hbs hh_1.1.1
  have hsy_2 : s.heap.size ≤ s.heap.size := hh_1.1.1
  clear hh_1
  refine lv_dup hx hb dX11_cancelRequest_3 rfl ?_
  refine lv_aload_n hx hb dX11_cancelRequest_4 rfl (lv_at hl 0 rfl) ?_
  refine j7_read hx hb hown hK (C := RX11) (T := TX11) (N := 19) rfl hly_13_2 hlk_28 (hh_2.at 4 rfl) dX11_cancelRequest_5 ?_
  refine lv_aload_n hx hb dX11_cancelRequest_8 rfl (lv_at hl 0 rfl) ?_
  refine j7_read hx hb hown hK (C := RX11) (T := TX11) (N := 19) rfl hly_13_2 hlk_28 (hh_2.at 4 rfl) dX11_cancelRequest_9 ?_
  refine lv_aload_n hx hb dX11_cancelRequest_12 rfl (lv_at hl 0 rfl) ?_
  refine j7_read hx hb hown hK (C := RX11) (T := TX11) (N := 19) rfl hly_13_2 hlk_28 (hh_2.at 4 rfl) dX11_cancelRequest_13 ?_
  refine lv_iconst (v := 0) hx hb dX11_cancelRequest_16 (by decide) ?_
  refine j_ldcSw hx hb hown rstr271 dX11_cancelRequest_17 ?_
  have hsz_3 := hh_2.2.2.2.2.2.1
  have htt_3 := hh_2.2.2.2.2.2.2.1
  refine W.room (fun hrc_3 hrs_3 => ?_)
  refine va_calli (A0 := jA base) (H0 := s.heap) (va_runV (As := [.int 0, .ref str271]) (rest := [.ref js, .ref js, .ref s.heap.size, .ref s.heap.size]) ⟨hx, hb, hml, hown, hts⟩ (uX4_memberQ l dC dI ca base B hB hAp hB6 hB140 hB141 hB142 hB143 hB144 hB145 hB146 G0 H_2 js 0 str271 6 pv wk wi wz jks fk fi fz fs) (cwV 2 hts (jgV (jWr_23 _ (List.mem_of_getElem? (i := 10) rfl)) (jWr_23 _ (List.mem_of_getElem? (i := 11) rfl)) (jWr_23 _ (List.mem_of_getElem? (i := 12) rfl)) (jWr_1 _ (List.mem_of_getElem? (i := 22) rfl)) (jWr_23 _ (List.mem_of_getElem? (i := 13) rfl))) rfl rfl rfl (by decide +kernel) ⟨by rw [← hR]; exact Nat.le_of_ble_eq_true rfl, by rw [← hR]; exact Nat.le_of_ble_eq_true rfl⟩) ⟨fun a U g mk q => by obtain ⟨q0, q1, q2, qK, q10, q11, q12, q13, q14, q15, q16, q17, q18⟩ := q; exact ⟨q0, q1, q2, jG.calling g mk a qK, (q10.moved (Vm.Alike.refl U.vm)), q11, q12, q13, q14, q15, q16, q17, q18⟩, hh_2.recv (C := RX4) (T := TX4) (N := 12) hB6 rfl (by decide) hg_js hK, fun U hU hW => ⟨rfl, hU, hh_2.2.1, hG.step hW hU hh_2.1, (hstr271.moved hW.alike).kept hh_2.1.2.1, hg_js, hg_wk, hg_wi, hg_wz, hg_jks, (hh_2.2.2.1.sub (L1 := [(js, 6, 7, .int pv), (js, 6, 0, .ref wk), (js, 6, 1, .ref wi), (js, 6, 2, .ref wz), (js, 6, 5, .ref jks)]) [5, 7, 8, 9, 10] rfl), (hh_2.2.2.2.2.2.2.2.1.sub (L1 := [(wk, 140, 1502, ca 1, fk), (wi, 141, 1502, ca 1, fi), (wz, 142, 1502, ca 1, fz), (jks, 145, 1502, ca 1, fs)]) [0, 1, 2, 3] rfl), ⟨(by first | omega | rfl | assumption | fail), (by first | omega | rfl | assumption | fail), (by first | omega | rfl | assumption | fail)⟩⟩⟩ rfl rfl hl.1 rfl (lv_room (Nat.le_of_ble_eq_true rfl)) dX11_cancelRequest_20 ⟨by rw [hRc]; show _ + 0 ≤ _; omega, by rw [hRs]; show _ + 0 ≤ _; omega⟩) hh_2.1 (fun q _ h => h) (fun q h => h) (fun r_4 u_3 t_3 H_3 locs_3 ht_3 hvm_3 hr_4 hb_3 hz_3 hk_3 hS_3 => ?_)
  rw [ht_3] at hb_3
  obtain ⟨hb_3, hbF_3⟩ := hb_3
  obtain ⟨hb_31, hb_32, hb_33, hb_34, hb_35⟩ := hb_3
  have hh_3 : jSt (dC, dI) B base G0 G0 EX11_cancelRequest s.heap (0 + 1) (0 + 5) [(r0, 13, 4, .ref bo), (bo, 2, 1, .int pc), (bo, 2, 0, .ref pa), (r0, 13, 3, .ref ou), (r0, 13, 2, .ref js), (js, 6, 7, .int pv), (js, 6, 8, .int pu), (js, 6, 0, .ref wk), (js, 6, 1, .ref wi), (js, 6, 2, .ref wz), (js, 6, 5, .ref jks)] [(wk, 140, 1502, ca 1, fk), (wi, 141, 1502, ca 1, fi), (wz, 142, 1502, ca 1, fz), (jks, 145, 1502, ca 1, fs)] [([(2, 0), (2, 1)], jOl (dC, dI) G0 2 [bo, ou] s.heap), (jFy, jYb dC dI G0), (jFl, jLs dC dI ca G0 3 none)] H_3 locs_3 := ((hh_2.call hb_31 hb_32 hb_33 hb_34 hS_3 rfl (L1 := [(r0, 13, 4, .ref bo), (bo, 2, 1, .int pc), (bo, 2, 0, .ref pa), (r0, 13, 3, .ref ou), (r0, 13, 2, .ref js), (js, 6, 7, .int pv), (js, 6, 8, .int pu), (js, 6, 0, .ref wk), (js, 6, 1, .ref wi), (js, 6, 2, .ref wz), (js, 6, 5, .ref jks)]) [0, 1, 2, 3, 4, 5, 6, 7, 8, 9, 10] rfl rfl (M1 := [(wk, 140, 1502, ca 1, fk), (wi, 141, 1502, ca 1, fi), (wz, 142, 1502, ca 1, fz), (jks, 145, 1502, ca 1, fs)]) [0, 1, 2, 3] rfl rfl (I1 := [([(2, 0), (2, 1)], jOl (dC, dI) G0 2 [bo, ou] s.heap), (jFy, jYb dC dI G0), (jFl, jLs dC dI ca G0 3 none)]) [0, 1, 2] rfl rfl).more hb_35)
  clear hh_2 ht_3 hvm_3 hz_3 hk_3 hS_3 hb_31 hb_32 hb_33 hb_34 hb_35
  have hraw_5 := hraw_2.kept (hbF_3 _ (by simp))
  obtain ⟨hr_4_0, hr_4_1, hr_4_2⟩ := hr_4
  refine j_ldcSw hx hb hown rstr259 dX11_cancelRequest_23 ?_
  have hsz_6 := hh_3.2.2.2.2.2.1
  have htt_6 := hh_3.2.2.2.2.2.2.1
  refine W.room (fun hrc_6 hrs_6 => ?_)
  refine va_calli (A0 := jA base) (H0 := s.heap) (va_runV (As := [.int r_4, .ref str259]) (rest := [.ref js, .ref s.heap.size, .ref s.heap.size]) ⟨hx, hb, hml, hown, hts⟩ (uX4_memberQ l dC dI ca base B hB hAp hB6 hB140 hB141 hB142 hB143 hB144 hB145 hB146 G0 H_3 js r_4 str259 2 pv wk wi wz jks fk fi fz fs) (cwV 2 hts (jgV (jWr_23 _ (List.mem_of_getElem? (i := 10) rfl)) (jWr_23 _ (List.mem_of_getElem? (i := 11) rfl)) (jWr_23 _ (List.mem_of_getElem? (i := 12) rfl)) (jWr_1 _ (List.mem_of_getElem? (i := 22) rfl)) (jWr_23 _ (List.mem_of_getElem? (i := 13) rfl))) rfl rfl rfl (by decide +kernel) ⟨by rw [← hR]; exact Nat.le_of_ble_eq_true rfl, by rw [← hR]; exact Nat.le_of_ble_eq_true rfl⟩) ⟨fun a U g mk q => by obtain ⟨q0, q1, q2, qK, q10, q11, q12, q13, q14, q15, q16, q17, q18⟩ := q; exact ⟨q0, q1, q2, jG.calling g mk a qK, (q10.moved (Vm.Alike.refl U.vm)), q11, q12, q13, q14, q15, q16, q17, q18⟩, hh_3.recv (C := RX4) (T := TX4) (N := 12) hB6 rfl (by decide) hg_js hK, fun U hU hW => ⟨rfl, hU, hh_3.2.1, hG.step hW hU hh_3.1, (hstr259.moved hW.alike).kept hh_3.1.2.1, hg_js, hg_wk, hg_wi, hg_wz, hg_jks, (hh_3.2.2.1.sub (L1 := [(js, 6, 7, .int pv), (js, 6, 0, .ref wk), (js, 6, 1, .ref wi), (js, 6, 2, .ref wz), (js, 6, 5, .ref jks)]) [5, 7, 8, 9, 10] rfl), (hh_3.2.2.2.2.2.2.2.1.sub (L1 := [(wk, 140, 1502, ca 1, fk), (wi, 141, 1502, ca 1, fi), (wz, 142, 1502, ca 1, fz), (jks, 145, 1502, ca 1, fs)]) [0, 1, 2, 3] rfl), ⟨(by first | omega | rfl | assumption | fail), (by first | omega | rfl | assumption | fail), (by first | omega | rfl | assumption | fail)⟩⟩⟩ rfl rfl hl.1 rfl (lv_room (Nat.le_of_ble_eq_true rfl)) dX11_cancelRequest_26 ⟨by rw [hRc]; show _ + 0 ≤ _; omega, by rw [hRs]; show _ + 0 ≤ _; omega⟩) hh_3.1 (fun q _ h => h) (fun q h => h) (fun r_7 u_6 t_6 H_6 locs_6 ht_6 hvm_6 hr_7 hb_6 hz_6 hk_6 hS_6 => ?_)
  rw [ht_6] at hb_6
  obtain ⟨hb_6, hbF_6⟩ := hb_6
  obtain ⟨hb_61, hb_62, hb_63, hb_64, hb_65⟩ := hb_6
  have hh_6 : jSt (dC, dI) B base G0 G0 EX11_cancelRequest s.heap (0 + 1) (0 + 5) [(r0, 13, 4, .ref bo), (bo, 2, 1, .int pc), (bo, 2, 0, .ref pa), (r0, 13, 3, .ref ou), (r0, 13, 2, .ref js), (js, 6, 7, .int pv), (js, 6, 8, .int pu), (js, 6, 0, .ref wk), (js, 6, 1, .ref wi), (js, 6, 2, .ref wz), (js, 6, 5, .ref jks)] [(wk, 140, 1502, ca 1, fk), (wi, 141, 1502, ca 1, fi), (wz, 142, 1502, ca 1, fz), (jks, 145, 1502, ca 1, fs)] [([(2, 0), (2, 1)], jOl (dC, dI) G0 2 [bo, ou] s.heap), (jFy, jYb dC dI G0), (jFl, jLs dC dI ca G0 3 none)] H_6 locs_6 := ((hh_3.call hb_61 hb_62 hb_63 hb_64 hS_6 rfl (L1 := [(r0, 13, 4, .ref bo), (bo, 2, 1, .int pc), (bo, 2, 0, .ref pa), (r0, 13, 3, .ref ou), (r0, 13, 2, .ref js), (js, 6, 7, .int pv), (js, 6, 8, .int pu), (js, 6, 0, .ref wk), (js, 6, 1, .ref wi), (js, 6, 2, .ref wz), (js, 6, 5, .ref jks)]) [0, 1, 2, 3, 4, 5, 6, 7, 8, 9, 10] rfl rfl (M1 := [(wk, 140, 1502, ca 1, fk), (wi, 141, 1502, ca 1, fi), (wz, 142, 1502, ca 1, fz), (jks, 145, 1502, ca 1, fs)]) [0, 1, 2, 3] rfl rfl (I1 := [([(2, 0), (2, 1)], jOl (dC, dI) G0 2 [bo, ou] s.heap), (jFy, jYb dC dI G0), (jFl, jLs dC dI ca G0 3 none)]) [0, 1, 2] rfl rfl).more hb_65)
  clear hh_3 ht_6 hvm_6 hz_6 hk_6 hS_6 hb_61 hb_62 hb_63 hb_64 hb_65
  have hraw_8 := hraw_5.kept (hbF_6 _ (by simp))
  obtain ⟨hr_7_0, hr_7_1, hr_7_2⟩ := hr_7
  have hsz_9 := hh_6.2.2.2.2.2.1
  have htt_9 := hh_6.2.2.2.2.2.2.1
  refine W.room (fun hrc_9 hrs_9 => ?_)
  refine va_callv (A0 := jA base) (H0 := s.heap) (va_runI (As := [.ref js, .int r_7]) (rest := [.ref s.heap.size]) ⟨hx, hb, hml, hown, hts⟩ (uX8_init l dC dI ca base B hB hAp hB2 hB6 hB10 hB101 hB140 hB141 hB142 hB146 hB196 G0 H_6 s.heap.size js r_7 pv wk wi wz fk fi fz LC LS) (cwI 2 hts (jgW (jWr_24 _ (List.mem_of_getElem? (i := 0) rfl))) rfl rfl rfl (htw (.initialized RX8) (jWr_19 _ (List.mem_of_getElem? (i := 5) rfl))) (htw (.methodLink RX11 264 yX8_init) (jWr_23 _ (List.mem_of_getElem? (i := 22) rfl))) (htw (.instanceMethod yX8_init) (jWr_23 _ (List.mem_of_getElem? (i := 23) rfl))) rfl (by decide +kernel) ⟨by rw [← hR]; exact Nat.le_of_ble_eq_true rfl, by rw [← hR]; exact Nat.le_of_ble_eq_true rfl⟩) ⟨fun a U g mk q => by obtain ⟨q0, q1, q2, qK, q10, q11, q12, q13, q14, q15, q16, q17, q18, q19, q20⟩ := q; exact ⟨q0, q1, q2, jG.calling g mk a qK, q10, q11, q12, q13, q14, q15, q16, q17, q18, q19, q20⟩, fun U hU hW => ⟨rfl, hU, hh_6.2.1, hG.step hW hU hh_6.1, hg_js, hraw_8, hnr_2, hbr_2, hg_wk, hg_wi, hg_wz, (hh_6.2.2.1.sub (L1 := [(js, 6, 7, .int pv), (js, 6, 0, .ref wk), (js, 6, 1, .ref wi), (js, 6, 2, .ref wz)]) [5, 7, 8, 9] rfl), (hh_6.2.2.2.2.2.2.2.1.sub (L1 := [(wk, 140, 1502, ca 1, fk), (wi, 141, 1502, ca 1, fi), (wz, 142, 1502, ca 1, fz)]) [0, 1, 2] rfl), (hh_6.2.2.2.2.2.2.2.2.sub (L1 := [(jFy, jYb dC dI G0)]) [1] rfl), (by omega), (by omega), ⟨(by first | omega | rfl | assumption | fail), (by first | omega | rfl | assumption | fail), (by first | assumption | fail | omega)⟩⟩⟩ rfl rfl hl.1 rfl (lv_room (Nat.le_of_ble_eq_true rfl)) dX11_cancelRequest_29 ⟨by rw [hRc]; omega, by rw [hRs]; omega⟩) hh_6.1 (fun q _ h => h) (fun q h => h) (fun u_9 t_9 H_9 locs_9 ht_9 hvm_9 hr_10 hb_9 hz_9 hk_9 hS_9 => ?_)
  rw [ht_9] at hb_9
  obtain ⟨G_9, rfl⟩ : ∃ z, z = u_9 := ⟨_, rfl⟩
  try simp only at hb_9
  obtain ⟨⟨hb_91, hb_92, hb_93, hb_94, hb_95, hb_96⟩, hN_9, hbO_9, hgc_9, hbE_9⟩ := hb_9
  have hh_9 : jSt (dC, dI) B base G0 G_9 EX11_cancelRequest s.heap ((0 + 1) + (10)) ((0 + 5) + (262)) [(r0, 13, 4, .ref bo), (r0, 13, 3, .ref ou), (r0, 13, 2, .ref js), (js, 6, 7, .int pv), (js, 6, 8, .int pu), (js, 6, 0, .ref wk), (js, 6, 1, .ref wi), (js, 6, 2, .ref wz), (js, 6, 5, .ref jks)] [(wk, 140, 1502, ca 1, fk), (wi, 141, 1502, ca 1, fi), (wz, 142, 1502, ca 1, fz), (jks, 145, 1502, ca 1, fs)] [(jFl, jLs dC dI ca G0 3 none)] H_9 locs_9 := (hh_6.callG hb_91 hb_92 hb_93 hb_94 hb_95 hS_9 rfl (L1 := [(r0, 13, 4, .ref bo), (r0, 13, 3, .ref ou), (r0, 13, 2, .ref js), (js, 6, 7, .int pv), (js, 6, 8, .int pu), (js, 6, 0, .ref wk), (js, 6, 1, .ref wi), (js, 6, 2, .ref wz), (js, 6, 5, .ref jks)]) [0, 3, 4, 5, 6, 7, 8, 9, 10] rfl rfl (M1 := [(wk, 140, 1502, ca 1, fk), (wi, 141, 1502, ca 1, fi), (wz, 142, 1502, ca 1, fz), (jks, 145, 1502, ca 1, fs)]) [0, 1, 2, 3] rfl rfl (I1 := [(jFl, jLs dC dI ca G0 3 none)]) [2] rfl rfl).more hb_96
  have hNn_9 : (jNk [0, 1, 3, 4, 5, 6, 7, 8, 9, 11, 12, 13, 14, 15, 16]) G0 G_9 := (jNk.rf).tr hN_9
  have hg_11 := hb_92 _ _ hg_r0
  have hg_12 := hb_92 _ _ hg_bo
  have hg_13 := hb_92 _ _ hg_ou
  have hg_14 := hb_92 _ _ hg_js
  have hg_15 := hb_92 _ _ hg_wk
  have hg_16 := hb_92 _ _ hg_wi
  have hg_17 := hb_92 _ _ hg_wz
  have hg_18 := hb_92 _ _ hg_jks
  have hd_19 := jLs.grow (hh_9.iv 0 rfl) hb_92 hN_9 (by decide)
  have hh_20 := hh_9.sub (L1 := [(r0, 13, 4, .ref bo), (r0, 13, 3, .ref ou), (r0, 13, 2, .ref js), (js, 6, 7, .int pv), (js, 6, 8, .int pu), (js, 6, 0, .ref wk), (js, 6, 1, .ref wi), (js, 6, 2, .ref wz), (js, 6, 5, .ref jks)]) [0, 1, 2, 3, 4, 5, 6, 7, 8] rfl (M1 := [(wk, 140, 1502, ca 1, fk), (wi, 141, 1502, ca 1, fi), (wz, 142, 1502, ca 1, fz), (jks, 145, 1502, ca 1, fs)]) [0, 1, 2, 3] rfl (I1 := []) [] rfl
  clear hh_9
  have hh_21 := hh_20.addI (jLs.ie hd_19)
  clear hh_20
  have hh_22 := hh_21.addIs hbE_9
  have hh_23 := hh_22.more (P1 := [(bo, 2, 1, .int pc), (bo, 2, 0, .ref pa)]) (jP.cons hg_12 (hbO_9 _ _ _ _ (by simp) hg_bo (hh_6.at 1 rfl)) (jP.cons hg_12 (hbO_9 _ _ _ _ (by simp) hg_bo (hh_6.at 2 rfl)) jP.nil))
  have hg_24 := hb_92 _ _ hg_pa
  have hd_25 := jOl.trL (hh_6.iv 0 rfl) hh_6.2.2.2.2.1 hbO_9 (by simp)
  have hh_26 := hh_23.addI (jOl.ie (dC := dC) (dI := dI) (G0 := G0) (k := 2) (rs := [bo, ou]) (H0 := s.heap) (F := [(2, 0), (2, 1)]) (C := RX0) (T := TX0) (N := 2) rfl (by decide) hh_23.2.2.2.2.1 (hd_25))
  clear hh_23
  try simp only at hr_10
  have hh_27 := hh_26.wk (zc1 := (n_pa - n_pa) / 16 + 11) (zs1 := 2 * (n_pa - n_pa) + 267) (by omega) (by omega)
  clear hh_26
  try clear hsz_9 htt_9 hrc_9 hrs_9
  try clear hb_94 hb_95
  refine lv_astore_n (lv' := [(1, .ref s.heap.size), (0, .ref r0)]) hx hb dX11_cancelRequest_32 rfl hl (by decide) rfl (fun ls hl => ?_)
  refine lv_iconst (v := 0) hx hb dX11_cancelRequest_33 (by decide) ?_
  refine lv_istore_n (lv' := [(2, .int 0), (1, .ref s.heap.size), (0, .ref r0)]) hx hb dX11_cancelRequest_34 rfl hl (by decide) rfl (fun ls hl => ?_)
  have L35 : ∀ (N : Nat) (v2_28 : Int32) (H_28 : Heap) (locs_28 : List Loc), jSt (dC, dI) B base G0 G_9 EX11_cancelRequest s.heap ((n_pa - n_pa) / 16 + 11) (2 * (n_pa - n_pa) + 267) [(bo, 2, 1, .int pc), (bo, 2, 0, .ref pa), (r0, 13, 4, .ref bo), (r0, 13, 3, .ref ou), (r0, 13, 2, .ref js), (js, 6, 7, .int pv), (js, 6, 8, .int pu), (js, 6, 0, .ref wk), (js, 6, 1, .ref wi), (js, 6, 2, .ref wz), (js, 6, 5, .ref jks)] [(wk, 140, 1502, ca 1, fk), (wi, 141, 1502, ca 1, fi), (wz, 142, 1502, ca 1, fz), (jks, 145, 1502, ca 1, fs)] [([(2, 0), (2, 1)], jOl (dC, dI) G0 2 [bo, ou] s.heap), (jFy, jYb dC dI G_9), (jFl, jLs dC dI ca G_9 3 none)] H_28 locs_28 → (0 ≤ v2_28.toInt ∧ v2_28.toInt ≤ 40) → (41 - v2_28.toInt : Int) < N → ∀ ls : Array Slot, lv_has ls 3 [(0, .ref r0), (1, .ref s.heap.size), (2, .int v2_28)] → W p l e R s m ([.ref r0] : List Value).toArray below meth c H_28 locs_28 ((n_pa - n_pa) / 16 + 11) (2 * (n_pa - n_pa) + 267) Q (F0 m 35 ls []) := by
    intro N
    induction N with
    | zero => intro v2_28 H_28 locs_28 hh_28  hi_28 hm; exact absurd hm (by omega)
    | succ N L35 =>
      intro v2_28 H_28 locs_28 hh_28  hi_28 hm_28 ls hl
      obtain ⟨hi_28_0, hi_28_1⟩ := hi_28
      try clear hr_4_2; try clear hr_7_2
      refine lv_iload_n hx hb dX11_cancelRequest_35 rfl (lv_at hl 2 rfl) ?_
      refine lv_aload_n hx hb dX11_cancelRequest_36 rfl (lv_at hl 0 rfl) ?_
      obtain ⟨v_29, hv_29, hh_30⟩ := hh_28.pin (C := RX11) (T := TX11) (N := 19) hB13 rfl (by decide) hg_11 (i := 8) (by decide) rfl
      clear hh_28
      obtain ⟨waiting_31, rfl, hg_waiting_31⟩ := hv_29
      refine j7_read hx hb hown hK (C := RX11) (T := TX11) (N := 19) rfl hly_13_8 hlk_65 (hh_30.at 0 rfl) dX11_cancelRequest_37 ?_
      obtain ⟨v_34, hv_34, hh_35⟩ := hh_30.pin (C := RJx4a65c) (T := TJx4a65c) (N := 3) hB1 rfl (by decide) hg_waiting_31 (i := 2) (by decide) rfl
      obtain ⟨size_36, rfl, hlosize_36, hhisize_36⟩ := hv_34
      have hsz_32 := hh_35.2.2.2.2.2.1
      have htt_32 := hh_35.2.2.2.2.2.2.1
      refine W.room (fun hrc_32 hrs_32 => ?_)
      refine va_callFi (A0 := jA base) (H0 := s.heap) (va_runF (hK.1 1 _ rfl).2 (As := []) (rest := [.int v2_28]) ⟨hx, hb, hml, hown, hts⟩ (uJx4a65c_size_8abf5 l dC dI ca base B hB hAp hB1 G_9 H_28 waiting_31 2 size_36) (va_cwF 0 hts (jgF (jWr_27 _ (List.mem_of_getElem? (i := 22) rfl)) (jWr_27 _ (List.mem_of_getElem? (i := 23) rfl)) (jWr_28 _ (List.mem_of_getElem? (i := 0) rfl)) (jWr_2 _ (List.mem_of_getElem? (i := 13) rfl)) (jWr_28 _ (List.mem_of_getElem? (i := 1) rfl))) rfl rfl rfl hK7.2.2.2.2.2.1.1 ⟨by decide, by decide, by decide +kernel⟩ ⟨by rw [← hR]; exact Nat.le_of_ble_eq_true rfl, by rw [← hR]; exact Nat.le_of_ble_eq_true rfl⟩) ⟨fun a U g mk q => by obtain ⟨q0, q1, q2, qK, q10, q11, q12⟩ := q; exact ⟨q0, q1, q2, jG.calling g mk a qK, q10, q11, q12⟩, hh_35.recv (C := RJx4a65c) (T := TJx4a65c) (N := 3) hB1 rfl (by decide) hg_waiting_31 hK, fun U hU hW => ⟨rfl, hU, hh_35.2.1, hG.step hW hU hh_35.1, hg_waiting_31, (hh_35.2.2.1.sub (L1 := [(waiting_31, 1, 2, .int size_36)]) [0] rfl), trivial⟩⟩ rfl rfl hl.1 rfl (lv_room (Nat.le_of_ble_eq_true rfl)) dX11_cancelRequest_40 ⟨by rw [hRc]; show _ + 0 ≤ _; omega, by rw [hRs]; show _ + 0 ≤ _; omega⟩) hh_35.1 (fun q _ h => h) (fun q h => h) (fun r_33 u_32 t_32 H_32 locs_32 ht_32 hvm_32 hr_33 hb_32 hz_32 hk_32 hS_32 => ?_)
      rw [ht_32] at hb_32
      obtain ⟨hb_321, hb_322, hb_323, hb_324, hb_325⟩ := hb_32
      have hh_32 : jSt (dC, dI) B base G0 G_9 EX11_cancelRequest s.heap ((n_pa - n_pa) / 16 + 11) (2 * (n_pa - n_pa) + 267) [(waiting_31, 1, 2, .int size_36), (r0, 13, 8, .ref waiting_31), (bo, 2, 1, .int pc), (bo, 2, 0, .ref pa), (r0, 13, 4, .ref bo), (r0, 13, 3, .ref ou), (r0, 13, 2, .ref js), (js, 6, 7, .int pv), (js, 6, 8, .int pu), (js, 6, 0, .ref wk), (js, 6, 1, .ref wi), (js, 6, 2, .ref wz), (js, 6, 5, .ref jks)] [(wk, 140, 1502, ca 1, fk), (wi, 141, 1502, ca 1, fi), (wz, 142, 1502, ca 1, fz), (jks, 145, 1502, ca 1, fs)] [([(2, 0), (2, 1)], jOl (dC, dI) G0 2 [bo, ou] s.heap), (jFy, jYb dC dI G_9), (jFl, jLs dC dI ca G_9 3 none)] H_32 locs_32 := ((hh_35.call hb_321 hb_322 hb_323 hb_324 hS_32 rfl (L1 := [(waiting_31, 1, 2, .int size_36), (r0, 13, 8, .ref waiting_31), (bo, 2, 1, .int pc), (bo, 2, 0, .ref pa), (r0, 13, 4, .ref bo), (r0, 13, 3, .ref ou), (r0, 13, 2, .ref js), (js, 6, 7, .int pv), (js, 6, 8, .int pu), (js, 6, 0, .ref wk), (js, 6, 1, .ref wi), (js, 6, 2, .ref wz), (js, 6, 5, .ref jks)]) [0, 1, 2, 3, 4, 5, 6, 7, 8, 9, 10, 11, 12] rfl rfl (M1 := [(wk, 140, 1502, ca 1, fk), (wi, 141, 1502, ca 1, fi), (wz, 142, 1502, ca 1, fz), (jks, 145, 1502, ca 1, fs)]) [0, 1, 2, 3] rfl rfl (I1 := [([(2, 0), (2, 1)], jOl (dC, dI) G0 2 [bo, ou] s.heap), (jFy, jYb dC dI G_9), (jFl, jLs dC dI ca G_9 3 none)]) [0, 1, 2] rfl rfl).more hb_325)
      clear hh_35 ht_32 hvm_32 hz_32 hk_32 hS_32 hb_321 hb_322 hb_323 hb_324 hb_325
      refine lv_icmp_ge (tgt := 95) hx hb dX11_cancelRequest_45 (by decide) (fun c_37 => ?_) (fun c_37 => ?_)
      · skip
        have c_37' : v2_28.toInt ≥ r_33.toInt := jb_ge (rfl) (rfl) c_37
        have hsz_38 := hh_32.2.2.2.2.2.1
        have htt_38 := hh_32.2.2.2.2.2.2.1
        refine W.room (fun hrc_38 hrs_38 => ?_)
        refine W.widen (k := LC - s.heap.size) (n := LS - jTot s.heap) (by omega) (by omega) ?_
        rw [hQ]
        exact W.vret hx hb hr (fun t ht hW => ⟨⟨(pc, pa, n_pa, G_9), rfl, by (try dsimp only); exact ⟨(by first | omega | rfl | assumption | fail), (by first | omega | rfl | assumption | fail), (by first | omega | rfl | assumption | fail), (by first | omega | rfl | assumption | fail), (by first | assumption | fail | omega)⟩, ⟨hh_32.ra (by first | omega | (simp only; omega)) (by first | omega | (simp only; omega)) (M1 := [(bo, 2, 1, .int pc), (bo, 2, 0, .ref pa)]) [2, 3] rfl ht, hg_24, hNn_9, by rw [ht]; exact hh_32.iv 0 rfl, by rw [ht]; exact hh_32.2.2.2.2.2.2.2.2.sub (L1 := [(jFy, jYb dC dI G_9), (jFl, jLs dC dI ca G_9 3 none)]) [1, 2] rfl⟩⟩, by rw [ht]; try exact hh_32.1.1, fun q h9 hq => by rw [ht]; try exact hh_32.1.2.1 q h9 hq⟩) hh_32.1.2.2 dX11_cancelRequest_95
      · skip
        have c_37' : v2_28.toInt < r_33.toInt := jb_ge_n (rfl) (rfl) c_37
        refine lv_aload_n hx hb dX11_cancelRequest_48 rfl (lv_at hl 0 rfl) ?_
        refine j7_read hx hb hown hK (C := RX11) (T := TX11) (N := 19) rfl hly_13_8 hlk_65 (hh_32.at 1 rfl) dX11_cancelRequest_49 ?_
        refine lv_iload_n hx hb dX11_cancelRequest_52 rfl (lv_at hl 2 rfl) ?_
        have hsz_39 := hh_32.2.2.2.2.2.1
        have htt_39 := hh_32.2.2.2.2.2.2.1
        refine W.room (fun hrc_39 hrs_39 => ?_)
        refine j_callFx (A0 := jA base) (H0 := s.heap) (va_runF (hK.1 1 _ rfl).2 (As := [.int v2_28]) (rest := []) ⟨hx, hb, hml, hown, hts⟩ (uJx4a65c_get_915e3L2 l dC dI ca base B hB hAp hB1 hB10 hB222 G_9 H_32 waiting_31 v2_28 size_36) (va_cwF 1 hts (jgF (jWr_28 _ (List.mem_of_getElem? (i := 3) rfl)) (jWr_28 _ (List.mem_of_getElem? (i := 4) rfl)) (jWr_28 _ (List.mem_of_getElem? (i := 5) rfl)) (jWr_2 _ (List.mem_of_getElem? (i := 13) rfl)) (jWr_28 _ (List.mem_of_getElem? (i := 6) rfl))) rfl rfl rfl hK7.2.2.2.2.2.1.2.1 ⟨by decide, by decide, by decide +kernel⟩ ⟨by rw [← hR]; exact Nat.le_of_ble_eq_true rfl, by rw [← hR]; exact Nat.le_of_ble_eq_true rfl⟩) ⟨fun a U g mk q => by obtain ⟨q0, q1, q2, qK, q10, q11, q12, q13, q14⟩ := q; exact ⟨q0, q1, q2, jG.calling g mk a qK, (jK7.calling g mk a q10), q11, q12, q13, q14⟩, hh_32.recv (C := RJx4a65c) (T := TJx4a65c) (N := 3) hB1 rfl (by decide) hg_waiting_31 hK, fun U hU hW => ⟨rfl, hU, hh_32.2.1, hG.step hW hU hh_32.1, (hK7.step hW hU hh_32.1), hg_waiting_31, (hh_32.2.2.1.sub (L1 := [(waiting_31, 1, 2, .int size_36)]) [0] rfl), (hh_32.2.2.2.2.2.2.2.2.sub (L1 := [(jFl, jLs dC dI ca G_9 3 none)]) [2] rfl), ⟨(by first | omega | rfl | assumption | fail), (by first | omega | rfl | assumption | fail)⟩⟩⟩ rfl rfl hl.1 rfl (lv_room (Nat.le_of_ble_eq_true rfl)) dX11_cancelRequest_53 ⟨by rw [hRc]; show _ + 0 ≤ _; omega, by rw [hRs]; show _ + 0 ≤ _; omega⟩) hh_32.1 (fun q _ h => h) (fun q h => h) (fun r_40 u_39 t_39 H_39 locs_39 ht_39 hvm_39 hr_40 hb_39 hz_39 hk_39 hS_39 => ?_)
        rw [ht_39] at hb_39
        obtain ⟨hb_39, hbE_39⟩ := hb_39
        obtain ⟨hb_391, hb_392, hb_393, hb_394, hb_395⟩ := hb_39
        have hh_39 : jSt (dC, dI) B base G0 G_9 EX11_cancelRequest s.heap ((n_pa - n_pa) / 16 + 11) (2 * (n_pa - n_pa) + 267) [(waiting_31, 1, 2, .int size_36), (r0, 13, 8, .ref waiting_31), (bo, 2, 1, .int pc), (bo, 2, 0, .ref pa), (r0, 13, 4, .ref bo), (r0, 13, 3, .ref ou), (r0, 13, 2, .ref js), (js, 6, 7, .int pv), (js, 6, 8, .int pu), (js, 6, 0, .ref wk), (js, 6, 1, .ref wi), (js, 6, 2, .ref wz), (js, 6, 5, .ref jks)] [(wk, 140, 1502, ca 1, fk), (wi, 141, 1502, ca 1, fi), (wz, 142, 1502, ca 1, fz), (jks, 145, 1502, ca 1, fs)] [(jFl, jLs dC dI ca G_9 3 none), ([(2, 0), (2, 1)], jOl (dC, dI) G0 2 [bo, ou] s.heap), (jFy, jYb dC dI G_9)] H_39 locs_39 := (((hh_32.call hb_391 hb_392 hb_393 hb_394 hS_39 rfl (L1 := [(waiting_31, 1, 2, .int size_36), (r0, 13, 8, .ref waiting_31), (bo, 2, 1, .int pc), (bo, 2, 0, .ref pa), (r0, 13, 4, .ref bo), (r0, 13, 3, .ref ou), (r0, 13, 2, .ref js), (js, 6, 7, .int pv), (js, 6, 8, .int pu), (js, 6, 0, .ref wk), (js, 6, 1, .ref wi), (js, 6, 2, .ref wz), (js, 6, 5, .ref jks)]) [0, 1, 2, 3, 4, 5, 6, 7, 8, 9, 10, 11, 12] rfl rfl (M1 := [(wk, 140, 1502, ca 1, fk), (wi, 141, 1502, ca 1, fi), (wz, 142, 1502, ca 1, fz), (jks, 145, 1502, ca 1, fs)]) [0, 1, 2, 3] rfl rfl (I1 := [([(2, 0), (2, 1)], jOl (dC, dI) G0 2 [bo, ou] s.heap), (jFy, jYb dC dI G_9)]) [0, 1] rfl rfl).more hb_395)).addIs hbE_39
        clear hh_32 ht_39 hvm_39 hz_39 hk_39 hS_39 hb_391 hb_392 hb_393 hb_394 hb_395
        clear  hbE_39
        obtain ⟨ret_41, rfl, hg_ret_41⟩ := hr_40
        refine va_castY hx hb hown (htw (.classLink RX11 115 "ProofServer$Request") (jWr_42 _ (List.mem_of_getElem? (i := 5) rfl))) hK7.2.2.1.2.1.2 (hh_39.recv (C := RX8) (T := TX8) (N := 5) hB10 rfl (by decide) hg_ret_41 hK) dX11_cancelRequest_58 ?_
        refine lv_aload_n hx hb dX11_cancelRequest_61 rfl (lv_at hl 1 rfl) ?_
        have hsz_42 := hh_39.2.2.2.2.2.1
        have htt_42 := hh_39.2.2.2.2.2.2.1
        refine W.room (fun hrc_42 hrs_42 => ?_)
        refine va_calli (A0 := jA base) (H0 := s.heap) (va_runV (As := [.ref s.heap.size]) (rest := []) ⟨hx, hb, hml, hown, hts⟩ (uX8_hasIdOf l dC dI ca base B hB hAp hB2 hB10 hB196 G_9 H_39 ret_41 s.heap.size) (cwV 1 hts (jgV (jWr_43 _ (List.mem_of_getElem? (i := 23) rfl)) (jWr_44 _ (List.mem_of_getElem? (i := 0) rfl)) (jWr_44 _ (List.mem_of_getElem? (i := 1) rfl)) (jWr_19 _ (List.mem_of_getElem? (i := 5) rfl)) (jWr_44 _ (List.mem_of_getElem? (i := 2) rfl))) rfl rfl rfl (by decide +kernel) ⟨by rw [← hR]; exact Nat.le_of_ble_eq_true rfl, by rw [← hR]; exact Nat.le_of_ble_eq_true rfl⟩) ⟨fun a U g mk q => by obtain ⟨q0, q1, q2, qK, q10, q11, q12, q13, q14⟩ := q; exact ⟨q0, q1, q2, jG.calling g mk a qK, q10, q11, q12, q13, q14⟩, hh_39.recv (C := RX8) (T := TX8) (N := 5) hB10 rfl (by decide) hg_ret_41 hK, fun U hU hW => ⟨rfl, hU, hh_39.2.1, hG.step hW hU hh_39.1, hgc_9, hg_ret_41, jP.nil, (hh_39.2.2.2.2.2.2.2.2.sub (L1 := [(jFy, jYb dC dI G_9)]) [2] rfl), trivial⟩⟩ rfl rfl hl.1 rfl (lv_room (Nat.le_of_ble_eq_true rfl)) dX11_cancelRequest_62 ⟨by rw [hRc]; show _ + 0 ≤ _; omega, by rw [hRs]; show _ + 0 ≤ _; omega⟩) hh_39.1 (fun q _ h => h) (fun q h => h) (fun r_43 u_42 t_42 H_42 locs_42 ht_42 hvm_42 hr_43 hb_42 hz_42 hk_42 hS_42 => ?_)
        rw [ht_42] at hb_42
        obtain ⟨hb_42, hbE_42⟩ := hb_42
        obtain ⟨hb_421, hb_422, hb_423, hb_424, hb_425⟩ := hb_42
        have hh_42 : jSt (dC, dI) B base G0 G_9 EX11_cancelRequest s.heap ((n_pa - n_pa) / 16 + 11) (2 * (n_pa - n_pa) + 267) [(waiting_31, 1, 2, .int size_36), (r0, 13, 8, .ref waiting_31), (bo, 2, 1, .int pc), (bo, 2, 0, .ref pa), (r0, 13, 4, .ref bo), (r0, 13, 3, .ref ou), (r0, 13, 2, .ref js), (js, 6, 7, .int pv), (js, 6, 8, .int pu), (js, 6, 0, .ref wk), (js, 6, 1, .ref wi), (js, 6, 2, .ref wz), (js, 6, 5, .ref jks)] [(wk, 140, 1502, ca 1, fk), (wi, 141, 1502, ca 1, fi), (wz, 142, 1502, ca 1, fz), (jks, 145, 1502, ca 1, fs)] [(jFy, jYb dC dI G_9), (jFl, jLs dC dI ca G_9 3 none), ([(2, 0), (2, 1)], jOl (dC, dI) G0 2 [bo, ou] s.heap)] H_42 locs_42 := (((hh_39.call hb_421 hb_422 hb_423 hb_424 hS_42 rfl (L1 := [(waiting_31, 1, 2, .int size_36), (r0, 13, 8, .ref waiting_31), (bo, 2, 1, .int pc), (bo, 2, 0, .ref pa), (r0, 13, 4, .ref bo), (r0, 13, 3, .ref ou), (r0, 13, 2, .ref js), (js, 6, 7, .int pv), (js, 6, 8, .int pu), (js, 6, 0, .ref wk), (js, 6, 1, .ref wi), (js, 6, 2, .ref wz), (js, 6, 5, .ref jks)]) [0, 1, 2, 3, 4, 5, 6, 7, 8, 9, 10, 11, 12] rfl rfl (M1 := [(wk, 140, 1502, ca 1, fk), (wi, 141, 1502, ca 1, fi), (wz, 142, 1502, ca 1, fz), (jks, 145, 1502, ca 1, fs)]) [0, 1, 2, 3] rfl rfl (I1 := [(jFl, jLs dC dI ca G_9 3 none), ([(2, 0), (2, 1)], jOl (dC, dI) G0 2 [bo, ou] s.heap)]) [0, 1] rfl rfl).more hb_425)).addIs hbE_42
        clear hh_39 ht_42 hvm_42 hz_42 hk_42 hS_42 hb_421 hb_422 hb_423 hb_424 hb_425
        clear  hbE_42
        obtain ⟨hr_43b, hr_43p⟩ := hr_43
        have hr_43' := jb_01 hr_43b
        refine lv_if_eq (tgt := 89) hx hb dX11_cancelRequest_65 (by decide) (fun c_44 => ?_) (fun c_44 => ?_)
        · skip
          have c_44' : r_43.toInt = 0 := jb_eq (rfl) ((by decide)) c_44
          obtain ⟨z_45, ez_45⟩ : ∃ y : Int32, y = v2_28 + 1 := ⟨_, rfl⟩
          refine lv_iinc (v := z_45) (lv' := [(2, .int z_45), (0, .ref r0), (1, .ref s.heap.size)]) hx hb dX11_cancelRequest_89 hl (k := 2) rfl (by rw [ez_45]; rfl) (by decide) rfl (fun ls hl => ?_)
          have hz_45 : z_45.toInt = v2_28.toInt + 1 := by rw [ez_45]; exact jb_iadd2 (rfl) (by decide) (by omega)
          refine lv_goto (tgt := 35) hx hb dX11_cancelRequest_92 (by decide) ?_
          refine W.tight (c2 := ((n_pa - n_pa) / 16 + 11)) (n2 := (2 * (n_pa - n_pa) + 267)) hh_42.2.2.2.2.2.1 hh_42.2.2.2.2.2.2.1 ?_
          exact L35 z_45 _ _ (hh_42.sub (L1 := [(bo, 2, 1, .int pc), (bo, 2, 0, .ref pa), (r0, 13, 4, .ref bo), (r0, 13, 3, .ref ou), (r0, 13, 2, .ref js), (js, 6, 7, .int pv), (js, 6, 8, .int pu), (js, 6, 0, .ref wk), (js, 6, 1, .ref wi), (js, 6, 2, .ref wz), (js, 6, 5, .ref jks)]) [2, 3, 4, 5, 6, 7, 8, 9, 10, 11, 12] rfl (M1 := [(wk, 140, 1502, ca 1, fk), (wi, 141, 1502, ca 1, fi), (wz, 142, 1502, ca 1, fz), (jks, 145, 1502, ca 1, fs)]) [0, 1, 2, 3] rfl (I1 := [([(2, 0), (2, 1)], jOl (dC, dI) G0 2 [bo, ou] s.heap), (jFy, jYb dC dI G_9), (jFl, jLs dC dI ca G_9 3 none)]) [2, 0, 1] rfl) (⟨(by first | omega | rfl | assumption | fail), (by first | omega | rfl | assumption | fail)⟩) (by omega) _ (lv_sub hl [1, 2, 0] rfl)
        · skip
          have c_44' : r_43.toInt ≠ 0 := jb_eq_n (rfl) ((by decide)) c_44
          refine lv_aload_n hx hb dX11_cancelRequest_68 rfl (lv_at hl 0 rfl) ?_
          refine lv_aload_n hx hb dX11_cancelRequest_69 rfl (lv_at hl 0 rfl) ?_
          refine j7_read hx hb hown hK (C := RX11) (T := TX11) (N := 19) rfl hly_13_8 hlk_65 (hh_42.at 1 rfl) dX11_cancelRequest_70 ?_
          refine lv_iload_n hx hb dX11_cancelRequest_73 rfl (lv_at hl 2 rfl) ?_
          have hsz_46 := hh_42.2.2.2.2.2.1
          have htt_46 := hh_42.2.2.2.2.2.2.1
          refine W.room (fun hrc_46 hrs_46 => ?_)
          refine j_callFx (A0 := jA base) (H0 := s.heap) (va_runF (hK.1 1 _ rfl).2 (As := [.int v2_28]) (rest := [.ref r0]) ⟨hx, hb, hml, hown, hts⟩ (uJx4a65c_remove_915e3L2 l dC dI ca base B hB hAp hB1 hB10 hB222 G_9 H_42 waiting_31 v2_28 size_36) (va_cwF 1 hts (jgF (jWr_42 _ (List.mem_of_getElem? (i := 7) rfl)) (jWr_42 _ (List.mem_of_getElem? (i := 8) rfl)) (jWr_42 _ (List.mem_of_getElem? (i := 9) rfl)) (jWr_2 _ (List.mem_of_getElem? (i := 13) rfl)) (jWr_42 _ (List.mem_of_getElem? (i := 10) rfl))) rfl rfl rfl hK7.2.2.2.2.2.1.2.2.2 ⟨by decide, by decide, by decide +kernel⟩ ⟨by rw [← hR]; exact Nat.le_of_ble_eq_true rfl, by rw [← hR]; exact Nat.le_of_ble_eq_true rfl⟩) ⟨fun a U g mk q => by obtain ⟨q0, q1, q2, qK, q10, q11, q12, q13, q14⟩ := q; exact ⟨q0, q1, q2, jG.calling g mk a qK, (jK7.calling g mk a q10), q11, q12, q13, q14⟩, hh_42.recv (C := RJx4a65c) (T := TJx4a65c) (N := 3) hB1 rfl (by decide) hg_waiting_31 hK, fun U hU hW => ⟨rfl, hU, hh_42.2.1, hG.step hW hU hh_42.1, (hK7.step hW hU hh_42.1), hg_waiting_31, (hh_42.2.2.1.sub (L1 := [(waiting_31, 1, 2, .int size_36)]) [0] rfl), (hh_42.2.2.2.2.2.2.2.2.sub (L1 := [(jFl, jLs dC dI ca G_9 3 none)]) [1] rfl), ⟨(by first | omega | rfl | assumption | fail), (by first | omega | rfl | assumption | fail)⟩⟩⟩ rfl rfl hl.1 rfl (lv_room (Nat.le_of_ble_eq_true rfl)) dX11_cancelRequest_74 ⟨by rw [hRc]; show _ + 0 ≤ _; omega, by rw [hRs]; show _ + 0 ≤ _; omega⟩) hh_42.1 (fun q _ h => h) (fun q h => h) (fun r_47 u_46 t_46 H_46 locs_46 ht_46 hvm_46 hr_47 hb_46 hz_46 hk_46 hS_46 => ?_)
          obtain ⟨qz_46, rfl⟩ : ∃ z, z = u_46 := ⟨_, rfl⟩
          rw [ht_46] at hb_46
          obtain ⟨hb_46, hbE_46⟩ := hb_46
          obtain ⟨hb_46, hbO_46⟩ := hb_46
          obtain ⟨hb_461, hb_462, hb_463, hb_464, hb_465⟩ := hb_46
          have hh_46 : jSt (dC, dI) B base G0 G_9 EX11_cancelRequest s.heap ((n_pa - n_pa) / 16 + 11) (2 * (n_pa - n_pa) + 267) [(waiting_31, 1, 2, .int qz_46), (r0, 13, 8, .ref waiting_31), (bo, 2, 1, .int pc), (bo, 2, 0, .ref pa), (r0, 13, 4, .ref bo), (r0, 13, 3, .ref ou), (r0, 13, 2, .ref js), (js, 6, 7, .int pv), (js, 6, 8, .int pu), (js, 6, 0, .ref wk), (js, 6, 1, .ref wi), (js, 6, 2, .ref wz), (js, 6, 5, .ref jks)] [(wk, 140, 1502, ca 1, fk), (wi, 141, 1502, ca 1, fi), (wz, 142, 1502, ca 1, fz), (jks, 145, 1502, ca 1, fs)] [(jFl, jLs dC dI ca G_9 3 none), (jFy, jYb dC dI G_9), ([(2, 0), (2, 1)], jOl (dC, dI) G0 2 [bo, ou] s.heap)] H_46 locs_46 := (((hh_42.call hb_461 hb_462 hb_463 hb_464 hS_46 rfl (L1 := [(r0, 13, 8, .ref waiting_31), (bo, 2, 1, .int pc), (bo, 2, 0, .ref pa), (r0, 13, 4, .ref bo), (r0, 13, 3, .ref ou), (r0, 13, 2, .ref js), (js, 6, 7, .int pv), (js, 6, 8, .int pu), (js, 6, 0, .ref wk), (js, 6, 1, .ref wi), (js, 6, 2, .ref wz), (js, 6, 5, .ref jks)]) [1, 2, 3, 4, 5, 6, 7, 8, 9, 10, 11, 12] rfl rfl (M1 := [(wk, 140, 1502, ca 1, fk), (wi, 141, 1502, ca 1, fi), (wz, 142, 1502, ca 1, fz), (jks, 145, 1502, ca 1, fs)]) [0, 1, 2, 3] rfl rfl (I1 := [(jFy, jYb dC dI G_9), ([(2, 0), (2, 1)], jOl (dC, dI) G0 2 [bo, ou] s.heap)]) [0, 2] rfl rfl).more hb_465)).addIs hbE_46
          clear hh_42 ht_46 hvm_46 hz_46 hk_46 hS_46 hb_461 hb_462 hb_463 hb_464 hb_465
          clear  hbE_46
          obtain ⟨hr_47, hr_47p⟩ := hr_47
          obtain ⟨ret_48, rfl, hg_ret_48⟩ := hr_47
          refine va_castY hx hb hown (htw (.classLink RX11 115 "ProofServer$Request") (jWr_42 _ (List.mem_of_getElem? (i := 5) rfl))) hK7.2.2.1.2.1.2 (hh_46.recv (C := RX8) (T := TX8) (N := 5) hB10 rfl (by decide) hg_ret_48 hK) dX11_cancelRequest_79 ?_
          refine lv_ldcw hx hb hown hcs_429 dX11_cancelRequest_82 ?_
          have hsz_49 := hh_46.2.2.2.2.2.1
          have htt_49 := hh_46.2.2.2.2.2.2.1
          refine W.room (fun hrc_49 hrs_49 => ?_)
          refine va_callv (A0 := jA base) (H0 := s.heap) (va_runV (As := [.ref ret_48, .int (-32800)]) (rest := []) ⟨hx, hb, hml, hown, hts⟩ (uX11_refuse l dC dI ca base B hB hAp hB2 hB4 hB10 hB13 hB196 G_9 H_46 r0 ret_48 (-32800) bo pc pa n_pa ou LC LS) (cwV 2 hts (jgV (jWr_26 _ (List.mem_of_getElem? (i := 3) rfl)) (jWr_26 _ (List.mem_of_getElem? (i := 4) rfl)) (jWr_26 _ (List.mem_of_getElem? (i := 5) rfl)) (jWr_1 _ (List.mem_of_getElem? (i := 2) rfl)) (jWr_26 _ (List.mem_of_getElem? (i := 6) rfl))) rfl rfl rfl (by decide +kernel) ⟨by rw [← hR]; exact Nat.le_of_ble_eq_true rfl, by rw [← hR]; exact Nat.le_of_ble_eq_true rfl⟩) ⟨fun a U g mk q => by obtain ⟨q0, q1, q2, qK, q10, q11, q12, q13, q14, q15, q16, q17⟩ := q; exact ⟨q0, q1, q2, jG.calling g mk a qK, q10, q11, q12, q13, q14, q15, q16, q17⟩, hh_46.recv (C := RX11) (T := TX11) (N := 19) hB13 rfl (by decide) hg_11 hK, fun U hU hW => ⟨rfl, hU, hh_46.2.1, hG.step hW hU hh_46.1, hg_ret_48, hg_11, hg_12, hg_24, hg_13, (hh_46.2.2.1.sub (L1 := [(r0, 13, 4, .ref bo), (bo, 2, 1, .int pc), (bo, 2, 0, .ref pa), (r0, 13, 3, .ref ou)]) [4, 2, 3, 5] rfl), (hh_46.2.2.2.2.2.2.2.2.sub (L1 := [(jFy, jYb dC dI G_9)]) [1] rfl), (by omega), (by omega), ⟨(by first | omega | rfl | assumption | fail), (by first | omega | rfl | assumption | fail), (by first | omega | rfl | assumption | fail), (by first | omega | rfl | assumption | fail), (by first | assumption | fail | omega)⟩⟩⟩ rfl rfl hl.1 rfl (lv_room (Nat.le_of_ble_eq_true rfl)) dX11_cancelRequest_85 ⟨by rw [hRc]; omega, by rw [hRs]; omega⟩) hh_46.1 (fun q _ h => h) (fun q h => h) (fun u_49 t_49 H_49 locs_49 ht_49 hvm_49 hr_50 hb_49 hz_49 hk_49 hS_49 => ?_)
          obtain ⟨qc_49, qa_49, m_qa_49, G_49⟩ := u_49
          rw [ht_49] at hb_49
          simp only at hb_49
          obtain ⟨⟨hb_491, hb_492, hb_493, hb_494, hb_495, hb_496⟩, hgq_49_0, hN_49, hbO_49, hbE_49⟩ := hb_49
          have hY_49 := hN_49
          have hN_49 : (jNk [0, 1, 3, 4, 5, 6, 7, 8, 9, 11, 12, 13, 14, 15, 16]) G_9 G_49 := hN_49.sub (by decide)
          have hh_49 : jSt (dC, dI) B base G0 G_49 EX11_cancelRequest s.heap (((n_pa - n_pa) / 16 + 11) + ((m_qa_49 - n_pa) / 16)) ((2 * (n_pa - n_pa) + 267) + (2 * (m_qa_49 - n_pa))) [(bo, 2, 1, .int qc_49), (bo, 2, 0, .ref qa_49), (waiting_31, 1, 2, .int qz_46), (r0, 13, 8, .ref waiting_31), (r0, 13, 4, .ref bo), (r0, 13, 3, .ref ou), (r0, 13, 2, .ref js), (js, 6, 7, .int pv), (js, 6, 8, .int pu), (js, 6, 0, .ref wk), (js, 6, 1, .ref wi), (js, 6, 2, .ref wz), (js, 6, 5, .ref jks)] [(wk, 140, 1502, ca 1, fk), (wi, 141, 1502, ca 1, fi), (wz, 142, 1502, ca 1, fz), (jks, 145, 1502, ca 1, fs)] [(jFl, jLs dC dI ca G_9 3 none)] H_49 locs_49 := (hh_46.callG hb_491 hb_492 hb_493 hb_494 hb_495 hS_49 rfl (L1 := [(waiting_31, 1, 2, .int qz_46), (r0, 13, 8, .ref waiting_31), (r0, 13, 4, .ref bo), (r0, 13, 3, .ref ou), (r0, 13, 2, .ref js), (js, 6, 7, .int pv), (js, 6, 8, .int pu), (js, 6, 0, .ref wk), (js, 6, 1, .ref wi), (js, 6, 2, .ref wz), (js, 6, 5, .ref jks)]) [0, 1, 4, 5, 6, 7, 8, 9, 10, 11, 12] rfl rfl (M1 := [(wk, 140, 1502, ca 1, fk), (wi, 141, 1502, ca 1, fi), (wz, 142, 1502, ca 1, fz), (jks, 145, 1502, ca 1, fs)]) [0, 1, 2, 3] rfl rfl (I1 := [(jFl, jLs dC dI ca G_9 3 none)]) [0] rfl rfl).more hb_496
          have hNn_49 : (jNk [0, 1, 3, 4, 5, 6, 7, 8, 9, 11, 12, 13, 14, 15, 16]) G0 G_49 := (hNn_9).tr hN_49
          have hg_51 := hb_492 _ _ hg_11
          have hg_52 := hb_492 _ _ hgc_9
          have hg_53 := hb_492 _ _ hg_waiting_31
          have hg_54 := hb_492 _ _ hg_12
          have hg_55 := hb_492 _ _ hg_13
          have hg_56 := hb_492 _ _ hg_14
          have hg_57 := hb_492 _ _ hg_15
          have hg_58 := hb_492 _ _ hg_16
          have hg_59 := hb_492 _ _ hg_17
          have hg_60 := hb_492 _ _ hg_18
          have hd_61 := jLs.grow (hh_49.iv 0 rfl) hb_492 hN_49 (by decide)
          have hh_62 := hh_49.sub (L1 := [(bo, 2, 1, .int qc_49), (bo, 2, 0, .ref qa_49), (waiting_31, 1, 2, .int qz_46), (r0, 13, 8, .ref waiting_31), (r0, 13, 4, .ref bo), (r0, 13, 3, .ref ou), (r0, 13, 2, .ref js), (js, 6, 7, .int pv), (js, 6, 8, .int pu), (js, 6, 0, .ref wk), (js, 6, 1, .ref wi), (js, 6, 2, .ref wz), (js, 6, 5, .ref jks)]) [0, 1, 2, 3, 4, 5, 6, 7, 8, 9, 10, 11, 12] rfl (M1 := [(wk, 140, 1502, ca 1, fk), (wi, 141, 1502, ca 1, fi), (wz, 142, 1502, ca 1, fz), (jks, 145, 1502, ca 1, fs)]) [0, 1, 2, 3] rfl (I1 := []) [] rfl
          clear hh_49
          have hh_63 := hh_62.addI (jLs.ie hd_61)
          clear hh_62
          have hh_64 := hh_63.addIs hbE_49
          have hd_65 := jOl.trL (hh_46.iv 2 rfl) hh_46.2.2.2.2.1 hbO_49 (by simp)
          have hh_66 := hh_64.addI (jOl.ie (dC := dC) (dI := dI) (G0 := G0) (k := 2) (rs := [bo, ou]) (H0 := s.heap) (F := [(2, 0), (2, 1)]) (C := RX0) (T := TX0) (N := 2) rfl (by decide) hh_64.2.2.2.2.1 (hd_65))
          clear hh_64
          try simp only at hr_50
          obtain ⟨hr_50_0, hr_50_1, hr_50_2, hr_50_3, hr_50_4⟩ := hr_50
          have hh_67 := hh_66.wk (zc1 := (m_qa_49 - n_pa) / 16 + 11) (zs1 := 2 * (m_qa_49 - n_pa) + 267) (by omega) (by omega)
          clear hh_66
          try clear hsz_49 htt_49 hrc_49 hrs_49
          try clear hb_494 hb_495
          have hsz_68 := hh_67.2.2.2.2.2.1
          have htt_68 := hh_67.2.2.2.2.2.2.1
          refine W.room (fun hrc_68 hrs_68 => ?_)
          refine W.widen (k := LC - s.heap.size) (n := LS - jTot s.heap) (by omega) (by omega) ?_
          rw [hQ]
          exact W.vret hx hb hr (fun t ht hW => ⟨⟨(qc_49, qa_49, m_qa_49, G_49), rfl, by (try dsimp only); exact ⟨(by first | omega | rfl | assumption | fail), (by first | omega | rfl | assumption | fail), (by first | omega | rfl | assumption | fail), (by first | omega | rfl | assumption | fail), (by first | assumption | fail | omega)⟩, ⟨hh_67.ra (by first | omega | (simp only; omega)) (by first | omega | (simp only; omega)) (M1 := [(bo, 2, 1, .int qc_49), (bo, 2, 0, .ref qa_49)]) [0, 1] rfl ht, hgq_49_0, hNn_49, by rw [ht]; exact hh_67.iv 0 rfl, by rw [ht]; exact hh_67.2.2.2.2.2.2.2.2.sub (L1 := [(jFy, jYb dC dI G_49), (jFl, jLs dC dI ca G_49 3 none)]) [1, 2] rfl⟩⟩, by rw [ht]; try exact hh_67.1.1, fun q h9 hq => by rw [ht]; try exact hh_67.1.2.1 q h9 hq⟩) hh_67.1.2.2 dX11_cancelRequest_88
  refine W.tight (c2 := ((n_pa - n_pa) / 16 + 11)) (n2 := (2 * (n_pa - n_pa) + 267)) hh_27.2.2.2.2.2.1 hh_27.2.2.2.2.2.2.1 ?_
  exact L35 (41 - (0 : Int32).toInt : Int).toNat.succ 0 _ _ hh_27 (⟨(by first | omega | rfl | assumption | fail), (by first | omega | rfl | assumption | fail)⟩) (by omega) _ (lv_sub hl [2, 1, 0] rfl)
end
section
def EX11_closeDocumentE : List (Nat × Nat) := [(1, 0), (1, 2), (2, 0), (2, 1), (3, 11), (3, 12), (3, 13), (3, 14), (3, 15), (3, 16), (13, 14), (196, 0), (212, 0), (221, 0), (222, 0), (223, 0)]
set_option maxHeartbeats 4000000 in
set_option maxRecDepth 20000 in
theorem uX11_closeDocumentE (l : Launch) (dC : Nat → ClassId) (dI : Nat → Nat → Nat) (ca : Nat → ClassId) (base : Nat) (B : jF) (hB : jBok B) (hAp : jAp (dC, dI)) (hB1 : ∀ n G a H, B 1 n G a H ↔ jOb (dC, dI) 1 3 (F1 n G) a H) (hB2 : ∀ n G a H, B 2 n G a H ↔ jOb (dC, dI) 2 2 (F2 n G) a H) (hB3 : ∀ n G a H, B 3 n G a H ↔ jOb (dC, dI) 3 17 (F3 n G) a H) (hB4 : ∀ n G a H, B 4 n G a H ↔ jOb (dC, dI) 4 12 (F4 n G) a H) (hB6 : ∀ n G a H, B 6 n G a H ↔ jOb (dC, dI) 6 12 (F6 n G) a H) (hB10 : ∀ n G a H, B 10 n G a H ↔ jOb (dC, dI) 10 5 (F10 n G) a H) (hB11 : ∀ n G a H, B 11 n G a H ↔ jOb (dC, dI) 11 9 (F11 n G) a H) (hB13 : ∀ n G a H, B 13 n G a H ↔ jOb (dC, dI) 13 19 (F13 n G) a H) (hB101 : ∀ n G a H, B 101 n G a H ↔ jAr (dC, dI) (ca 1) (fun j z => True) n a H) (hB140 : ∀ n G a H, B 140 n G a H ↔ jAr (dC, dI) (ca 1) (fun j z => True) n a H) (hB141 : ∀ n G a H, B 141 n G a H ↔ jAr (dC, dI) (ca 1) (fun j z => True) n a H) (hB142 : ∀ n G a H, B 142 n G a H ↔ jAr (dC, dI) (ca 1) (fun j z => True) n a H) (hB143 : ∀ n G a H, B 143 n G a H ↔ jAr (dC, dI) (ca 1) (fun j z => True) n a H) (hB144 : ∀ n G a H, B 144 n G a H ↔ jAr (dC, dI) (ca 1) (fun j z => 0 ≤ z.toInt ∧ z.toInt ≤ 3000) n a H) (hB145 : ∀ n G a H, B 145 n G a H ↔ jAr (dC, dI) (ca 1) (fun j z => True) n a H) (hB146 : ∀ n G a H, B 146 n G a H ↔ jAr (dC, dI) (ca 1) (fun j z => True) n a H) (hB171 : ∀ n G a H, B 171 n G a H ↔ jAr (dC, dI) (ca 1) (fun j z => 0 ≤ z.toInt ∧ z.toInt ≤ 1500) n a H) (hB172 : ∀ n G a H, B 172 n G a H ↔ jAr (dC, dI) (ca 1) (fun j z => 0 ≤ z.toInt ∧ z.toInt ≤ 1500) n a H) (hB196 : ∀ n G a H, B 196 n G a H ↔ jAr (dC, dI) (ca 0) (fun j z => jBf j z) n a H) (hB210 : ∀ n G a H, B 210 n G a H ↔ jAq (dC, dI) (ca 6) (jQn 11 0) n G a H) (hB212 : ∀ n G a H, B 212 n G a H ↔ jAq (dC, dI) (ca 5) (jQn 3 0) n G a H) (hB221 : ∀ n G a H, B 221 n G a H ↔ jAq (dC, dI) (ca 9) (jQn 3 0) n G a H) (hB222 : ∀ n G a H, B 222 n G a H ↔ jAq (dC, dI) (ca 9) (jQn 10 0) n G a H) (G0 : jT) (H0 : Heap) (r0 : Nat) (bo : Nat) (pc : Int32) (pa : Nat) (n_pa : Nat) (ou : Nat) (op : Nat) (sz : Int32) (ph : Nat) (LC LS : Nat) : Met l yX11_closeDocument (jw yX11_closeDocument cX11_closeDocument 3 none) ({ frames := 8, cells := LC - H0.size, slots := LS - jTot H0, locals := 231 }) (va_Pc [.ref r0] (fun U => U.heap = H0 ∧ jX B base G0 [] H0 ∧ jG dC dI ca base U ∧ jK2 dC dI ca U ∧ jK5 dC dI ca U ∧ jK7 dC dI ca base U ∧ G0 r0 = some (13, 0) ∧ G0 bo = some (2, 0) ∧ G0 pa = some (196, n_pa) ∧ G0 ou = some (2, 20000) ∧ G0 op = some (1, 1) ∧ jP (dC, dI) G0 H0 [(r0, 13, 4, .ref bo), (bo, 2, 1, .int pc), (bo, 2, 0, .ref pa), (r0, 13, 3, .ref ou), (r0, 13, 7, .ref op), (op, 1, 2, .int sz)] ∧ jIs (dC, dI) G0 H0 [(jFy, jYb dC dI G0), (jFl, jLs dC dI ca G0 3 none), (jFdo, jDcc dC dI ca G0 none ph)] ∧ H0.size + (1048576 - n_pa) / 16 + 1 ≤ LC ∧ jTot H0 + 2 * (1048576 - n_pa) ≤ LS ∧ 0 ≤ pc.toInt ∧ pc.toInt ≤ n_pa ∧ 16 ≤ n_pa ∧ n_pa ≤ 1048576 ∧ jPw n_pa ∧ 0 ≤ sz.toInt ∧ sz.toInt ≤ 40)) (va_Qv (S := Int32 × Nat × Nat × Nat × jT) (fun u => 0 ≤ u.1.toInt ∧ u.1.toInt ≤ u.2.2.1 ∧ n_pa ≤ u.2.2.1 ∧ u.2.2.1 ≤ 1048576 ∧ jPw u.2.2.1 ∧ u.2.2.2.1 ≤ ph + 1516) (fun u t => jRa (dC, dI) B base G0 u.2.2.2.2 EX11_closeDocumentE H0 ((u.2.2.1 - n_pa) / 16) (2 * (u.2.2.1 - n_pa)) [(bo, 2, 1, .int u.1), (bo, 2, 0, .ref u.2.1)] t.heap ∧ u.2.2.2.2 u.2.1 = some (196, u.2.2.1) ∧ (jNk [0, 1, 2, 3, 4, 5, 6, 7, 8, 9, 10, 11, 12, 13, 14, 15, 16]) G0 u.2.2.2.2 ∧ jOl (dC, dI) G0 2 [bo, ou] H0 t.heap ∧ jIs (dC, dI) u.2.2.2.2 t.heap [(jFy, jYb dC dI u.2.2.2.2), (jFl, jLs dC dI ca u.2.2.2.2 3 none), (jFdo, jDcc dC dI ca u.2.2.2.2 none (u.2.2.2.1))]) (jA base)) (LC - H0.size) (LS - jTot H0) (jA base) := by
  refine Met.ofW (cc := cX11_closeDocument) (maxL := 3) (ret := none) (by decide) rfl ?_
  intro p e s m args below meth c s₁ Bd hml hv
  obtain ⟨rfl, hH0, hX, hG, hK2, hK5, hK7, hg_r0, hg_bo, hg_pa, hg_ou, hg_op, hP0, hI0, hLC0, hLS0, hp0, hp1, hp2, hp3, hp4, hp5, hp6⟩ := hv
  have hK := hG.1
  have hx := Bd.exec
  have hb := Bd.bytes
  have hr := Bd.returns
  have hts := atoms_spec (ws := (jw yX11_closeDocument cX11_closeDocument 3 none)) Bd.pre
  have htw : ∀ w ∈ jWl, w.before _ s = true := fun w h => hts w (List.mem_cons_of_mem _ h)
  have hown : s.vm.findClass RX11 = some m.cls := findClass_of_methodNamed Bd.named
  have hlocks := Bd.notSynchronized
  obtain ⟨Q, hQ⟩ : ∃ Q, Q = MQ below (va_Qv (S := Int32 × Nat × Nat × Nat × jT) (fun u => 0 ≤ u.1.toInt ∧ u.1.toInt ≤ u.2.2.1 ∧ n_pa ≤ u.2.2.1 ∧ u.2.2.1 ≤ 1048576 ∧ jPw u.2.2.1 ∧ u.2.2.2.1 ≤ ph + 1516) (fun u t => jRa (dC, dI) B base G0 u.2.2.2.2 EX11_closeDocumentE H0 ((u.2.2.1 - n_pa) / 16) (2 * (u.2.2.1 - n_pa)) [(bo, 2, 1, .int u.1), (bo, 2, 0, .ref u.2.1)] t.heap ∧ u.2.2.2.2 u.2.1 = some (196, u.2.2.1) ∧ (jNk [0, 1, 2, 3, 4, 5, 6, 7, 8, 9, 10, 11, 12, 13, 14, 15, 16]) G0 u.2.2.2.2 ∧ jOl (dC, dI) G0 2 [bo, ou] H0 t.heap ∧ jIs (dC, dI) u.2.2.2.2 t.heap [(jFy, jYb dC dI u.2.2.2.2), (jFl, jLs dC dI ca u.2.2.2.2 3 none), (jFdo, jDcc dC dI ca u.2.2.2.2 none (u.2.2.2.1))]) (jA base)) ([.ref r0] : List Value).toArray s (LC - H0.size) (LS - jTot H0) (jA base) := ⟨_, rfl⟩
  rw [← hQ]
  have hl := lv_entry ([.ref r0]) (n := 3) (Nat.le_of_ble_eq_true rfl)
  rw [lg_entry_eq]
  generalize (lg_sl ([.ref r0]) ++ List.replicate (3 - (lg_sl ([.ref r0])).length) Slot.unset).toArray = ls at hl ⊢
  have hl : lv_has ls 3 [(0, .ref r0)] := hl
  generalize hR : (headSpec (jw yX11_closeDocument cX11_closeDocument 3 none) ({ frames := 8, cells := LC - H0.size, slots := LS - jTot H0, locals := 231 })).room = R
  subst hH0
  have hh : jSt (dC, dI) B base G0 G0 EX11_closeDocumentE s.heap 0 0 [(r0, 13, 4, .ref bo), (bo, 2, 1, .int pc), (bo, 2, 0, .ref pa), (r0, 13, 3, .ref ou), (r0, 13, 7, .ref op), (op, 1, 2, .int sz)] [] [(jFy, jYb dC dI G0), (jFl, jLs dC dI ca G0 3 none), (jFdo, jDcc dC dI ca G0 none ph)] s.heap [] := jSt.start hX hP0 jMc.nil hI0
  clear hX hP0
  have hk0 : (0 : Int32).toInt = 0 := by decide
  have hk1 : (1 : Int32).toInt = 1 := by decide
  have hly_13_7 := htw (u_lay RX11 TX11 7) (jWc_wsX110 _ (u_in_lay (by decide)))
  have hlk_61 := (htw (.fieldLink RX11 61 "ProofServer" "open" "Ljava/util/List;") (jWr_2 _ (List.mem_of_getElem? (i := 14) rfl)))
  have hbs : base ≤ s.heap.size := Nat.le_of_lt (Nat.lt_of_le_of_lt (hh.ab hg_r0).1 (hh.ab hg_r0).2)
  have hRc : R.cells = LC - s.heap.size := by rw [← hR]; rfl
  have hRs : R.slots = LS - jTot s.heap := by rw [← hR]; rfl
  have hh_1 := hh.addI (jOl.ie (dC := dC) (dI := dI) (G0 := G0) (k := 2) (rs := [bo, ou]) (H0 := s.heap) (F := [(2, 0), (2, 1)]) (C := RX0) (T := TX0) (N := 2) rfl (by decide) hh.2.2.2.2.1 (jOl.rf))
  clear hh
  refine lv_aload_n hx hb dX11_closeDocument_0 rfl (lv_at hl 0 rfl) ?_
  have hsz_2 := hh_1.2.2.2.2.2.1
  have htt_2 := hh_1.2.2.2.2.2.2.1
  refine W.room (fun hrc_2 hrs_2 => ?_)
  refine j_callx (A0 := jA base) (H0 := s.heap) (va_runV (As := []) (rest := []) ⟨hx, hb, hml, hown, hts⟩ (uX11_addressed l dC dI ca base B hB hAp hB1 hB3 hB6 hB13 hB101 hB140 hB141 hB142 hB143 hB144 hB145 hB146 hB221 G0 s.heap r0) (cwV 0 hts (jgV (jWr_27 _ (List.mem_of_getElem? (i := 16) rfl)) (jWr_27 _ (List.mem_of_getElem? (i := 17) rfl)) (jWr_27 _ (List.mem_of_getElem? (i := 18) rfl)) (jWr_1 _ (List.mem_of_getElem? (i := 2) rfl)) (jWr_27 _ (List.mem_of_getElem? (i := 19) rfl))) rfl rfl rfl (by decide +kernel) ⟨by rw [← hR]; exact Nat.le_of_ble_eq_true rfl, by rw [← hR]; exact Nat.le_of_ble_eq_true rfl⟩) ⟨fun a U g mk q => by obtain ⟨q0, q1, q2, qK, q10, q11, q12, q13, q14⟩ := q; exact ⟨q0, q1, q2, jG.calling g mk a qK, (jK7.calling g mk a q10), q11, q12, q13, q14⟩, hh_1.recv (C := RX11) (T := TX11) (N := 19) hB13 rfl (by decide) hg_r0 hK, fun U hU hW => ⟨rfl, hU, hh_1.2.1, hG.step hW hU hh_1.1, (hK7.step hW hU hh_1.1), hg_r0, jP.nil, (hh_1.2.2.2.2.2.2.2.2.sub (L1 := [(jFl, jLs dC dI ca G0 3 none)]) [2] rfl), trivial⟩⟩ rfl rfl hl.1 rfl (lv_room (Nat.le_of_ble_eq_true rfl)) dX11_closeDocument_1 ⟨by rw [hRc]; show _ + 0 ≤ _; omega, by rw [hRs]; show _ + 0 ≤ _; omega⟩) hh_1.1 (fun q _ h => h) (fun q h => h) (fun r_3 u_2 t_2 H_2 locs_2 ht_2 hvm_2 hr_3 hb_2 hz_2 hk_2 hS_2 => ?_)
  rw [ht_2] at hb_2
  obtain ⟨hb_2, hbE_2⟩ := hb_2
  obtain ⟨hb_21, hb_22, hb_23, hb_24, hb_25⟩ := hb_2
  have hh_2 : jSt (dC, dI) B base G0 G0 EX11_closeDocumentE s.heap 0 0 [(r0, 13, 4, .ref bo), (bo, 2, 1, .int pc), (bo, 2, 0, .ref pa), (r0, 13, 3, .ref ou), (r0, 13, 7, .ref op), (op, 1, 2, .int sz)] [] [(jFl, jLs dC dI ca G0 3 none), ([(2, 0), (2, 1)], jOl (dC, dI) G0 2 [bo, ou] s.heap), (jFy, jYb dC dI G0), (jFdo, jDcc dC dI ca G0 none ph)] H_2 locs_2 := (((hh_1.call hb_21 hb_22 hb_23 hb_24 hS_2 rfl (L1 := [(r0, 13, 4, .ref bo), (bo, 2, 1, .int pc), (bo, 2, 0, .ref pa), (r0, 13, 3, .ref ou), (r0, 13, 7, .ref op), (op, 1, 2, .int sz)]) [0, 1, 2, 3, 4, 5] rfl rfl (M1 := []) [] rfl rfl (I1 := [([(2, 0), (2, 1)], jOl (dC, dI) G0 2 [bo, ou] s.heap), (jFy, jYb dC dI G0), (jFdo, jDcc dC dI ca G0 none ph)]) [0, 1, 3] rfl rfl).more hb_25)).addIs hbE_2
  clear hh_1 ht_2 hvm_2 hz_2 hk_2 hS_2 hb_21 hb_22 hb_23 hb_24 hb_25
  clear  hbE_2
  rcases hr_3 with rfl | ⟨ret_4, rfl, hg_ret_4⟩
  · skip
    refine j7_nst_n (lv' := [(1, .null), (0, .ref r0)]) hx hb dX11_closeDocument_4 rfl hl (by decide) rfl (fun ls hl => ?_)
    refine lv_aload_n hx hb dX11_closeDocument_5 rfl (lv_at hl 1 rfl) ?_
    refine j7_nld_n hx hb dX11_closeDocument_6 rfl (lv_at hl 0 rfl) ?_
    have hsz_5 := hh_2.2.2.2.2.2.1
    have htt_5 := hh_2.2.2.2.2.2.2.1
    refine W.room (fun hrc_5 hrs_5 => ?_)
    refine va_calli (A0 := jA base) (H0 := s.heap) (va_runV (As := [.null]) (rest := []) ⟨hx, hb, hml, hown, hts⟩ (uX11_numberOfZ l dC dI ca base B hB hAp hB1 hB3 hB13 hB221 G0 H_2 r0) (cwV 1 hts (jgV (jWr_43 _ (List.mem_of_getElem? (i := 14) rfl)) (jWr_43 _ (List.mem_of_getElem? (i := 15) rfl)) (jWr_43 _ (List.mem_of_getElem? (i := 16) rfl)) (jWr_1 _ (List.mem_of_getElem? (i := 2) rfl)) (jWr_43 _ (List.mem_of_getElem? (i := 17) rfl))) rfl rfl rfl (by decide +kernel) ⟨by rw [← hR]; exact Nat.le_of_ble_eq_true rfl, by rw [← hR]; exact Nat.le_of_ble_eq_true rfl⟩) ⟨fun a U g mk q => by obtain ⟨q0, q1, q2, qK, q10, q11, q12, q13, q14⟩ := q; exact ⟨q0, q1, q2, jG.calling g mk a qK, (jK7.calling g mk a q10), q11, q12, q13, q14⟩, hh_2.recv (C := RX11) (T := TX11) (N := 19) hB13 rfl (by decide) hg_r0 hK, fun U hU hW => ⟨rfl, hU, hh_2.2.1, hG.step hW hU hh_2.1, (hK7.step hW hU hh_2.1), hg_r0, jP.nil, (hh_2.2.2.2.2.2.2.2.2.sub (L1 := [(jFl, jLs dC dI ca G0 3 none)]) [0] rfl), trivial⟩⟩ rfl rfl hl.1 rfl (lv_room (Nat.le_of_ble_eq_true rfl)) dX11_closeDocument_7 ⟨by rw [hRc]; show _ + 0 ≤ _; omega, by rw [hRs]; show _ + 0 ≤ _; omega⟩) hh_2.1 (fun q _ h => h) (fun q h => h) (fun r_6 u_5 t_5 H_5 locs_5 ht_5 hvm_5 hr_6 hb_5 hz_5 hk_5 hS_5 => ?_)
    rw [ht_5] at hb_5
    obtain ⟨hb_5, hbE_5⟩ := hb_5
    obtain ⟨hb_51, hb_52, hb_53, hb_54, hb_55⟩ := hb_5
    have hh_5 : jSt (dC, dI) B base G0 G0 EX11_closeDocumentE s.heap 0 0 [(r0, 13, 4, .ref bo), (bo, 2, 1, .int pc), (bo, 2, 0, .ref pa), (r0, 13, 3, .ref ou), (r0, 13, 7, .ref op), (op, 1, 2, .int sz)] [] [(jFl, jLs dC dI ca G0 3 none), ([(2, 0), (2, 1)], jOl (dC, dI) G0 2 [bo, ou] s.heap), (jFy, jYb dC dI G0), (jFdo, jDcc dC dI ca G0 none ph)] H_5 locs_5 := (((hh_2.call hb_51 hb_52 hb_53 hb_54 hS_5 rfl (L1 := [(r0, 13, 4, .ref bo), (bo, 2, 1, .int pc), (bo, 2, 0, .ref pa), (r0, 13, 3, .ref ou), (r0, 13, 7, .ref op), (op, 1, 2, .int sz)]) [0, 1, 2, 3, 4, 5] rfl rfl (M1 := []) [] rfl rfl (I1 := [([(2, 0), (2, 1)], jOl (dC, dI) G0 2 [bo, ou] s.heap), (jFy, jYb dC dI G0), (jFdo, jDcc dC dI ca G0 none ph)]) [1, 2, 3] rfl rfl).more hb_55)).addIs hbE_5
    clear hh_2 ht_5 hvm_5 hz_5 hk_5 hS_5 hb_51 hb_52 hb_53 hb_54 hb_55
    clear  hbE_5
    refine lv_istore_n (lv' := [(2, .int r_6), (1, .null), (0, .ref r0)]) hx hb dX11_closeDocument_10 rfl hl (by decide) rfl (fun ls hl => ?_)
    refine j7_nld_n hx hb dX11_closeDocument_11 rfl (lv_at hl 1 rfl) ?_
    refine lv_ifnullN (tgt := 19) hx hb dX11_closeDocument_12 (by decide) ?_
    have hsz_7 := hh_5.2.2.2.2.2.1
    have htt_7 := hh_5.2.2.2.2.2.2.1
    refine W.room (fun hrc_7 hrs_7 => ?_)
    refine W.widen (k := LC - s.heap.size) (n := LS - jTot s.heap) (by omega) (by omega) ?_
    rw [hQ]
    exact W.vret hx hb hr (fun t ht hW => ⟨⟨(pc, pa, n_pa, ph, G0), rfl, by (try dsimp only); exact ⟨(by first | omega | rfl | assumption | fail), (by first | omega | rfl | assumption | fail), (by first | omega | rfl | assumption | fail), (by first | omega | rfl | assumption | fail), (by first | assumption | fail | omega), (by first | omega | rfl | assumption | fail)⟩, ⟨hh_5.ra (by first | omega | (simp only; omega)) (by first | omega | (simp only; omega)) (M1 := [(bo, 2, 1, .int pc), (bo, 2, 0, .ref pa)]) [1, 2] rfl ht, hg_pa, jNk.rf, by rw [ht]; exact hh_5.iv 1 rfl, by rw [ht]; exact hh_5.2.2.2.2.2.2.2.2.sub (L1 := [(jFy, jYb dC dI G0), (jFl, jLs dC dI ca G0 3 none), (jFdo, jDcc dC dI ca G0 none ph)]) [2, 0, 3] rfl⟩⟩, by rw [ht]; try exact hh_5.1.1, fun q h9 hq => by rw [ht]; try exact hh_5.1.2.1 q h9 hq⟩) hh_5.1.2.2 dX11_closeDocument_19
  · skip
    refine lv_astore_n (lv' := [(1, .ref ret_4), (0, .ref r0)]) hx hb dX11_closeDocument_4 rfl hl (by decide) rfl (fun ls hl => ?_)
    refine lv_aload_n hx hb dX11_closeDocument_5 rfl (lv_at hl 1 rfl) ?_
    refine lv_aload_n hx hb dX11_closeDocument_6 rfl (lv_at hl 0 rfl) ?_
    have hsz_8 := hh_2.2.2.2.2.2.1
    have htt_8 := hh_2.2.2.2.2.2.2.1
    refine W.room (fun hrc_8 hrs_8 => ?_)
    refine va_calli (A0 := jA base) (H0 := s.heap) (va_runV (As := [.ref ret_4]) (rest := []) ⟨hx, hb, hml, hown, hts⟩ (uX11_numberOf l dC dI ca base B hB hAp hB1 hB3 hB13 hB221 G0 H_2 r0 ret_4 op sz) (cwV 1 hts (jgV (jWr_43 _ (List.mem_of_getElem? (i := 14) rfl)) (jWr_43 _ (List.mem_of_getElem? (i := 15) rfl)) (jWr_43 _ (List.mem_of_getElem? (i := 16) rfl)) (jWr_1 _ (List.mem_of_getElem? (i := 2) rfl)) (jWr_43 _ (List.mem_of_getElem? (i := 17) rfl))) rfl rfl rfl (by decide +kernel) ⟨by rw [← hR]; exact Nat.le_of_ble_eq_true rfl, by rw [← hR]; exact Nat.le_of_ble_eq_true rfl⟩) ⟨fun a U g mk q => by obtain ⟨q0, q1, q2, qK, q10, q11, q12, q13, q14, q15, q16⟩ := q; exact ⟨q0, q1, q2, jG.calling g mk a qK, (jK7.calling g mk a q10), q11, q12, q13, q14, q15, q16⟩, hh_2.recv (C := RX11) (T := TX11) (N := 19) hB13 rfl (by decide) hg_r0 hK, fun U hU hW => ⟨rfl, hU, hh_2.2.1, hG.step hW hU hh_2.1, (hK7.step hW hU hh_2.1), hg_r0, hg_ret_4, hg_op, (hh_2.2.2.1.sub (L1 := [(r0, 13, 7, .ref op), (op, 1, 2, .int sz)]) [4, 5] rfl), (hh_2.2.2.2.2.2.2.2.2.sub (L1 := [(jFl, jLs dC dI ca G0 3 none)]) [0] rfl), ⟨(by first | omega | rfl | assumption | fail), (by first | omega | rfl | assumption | fail)⟩⟩⟩ rfl rfl hl.1 rfl (lv_room (Nat.le_of_ble_eq_true rfl)) dX11_closeDocument_7 ⟨by rw [hRc]; show _ + 0 ≤ _; omega, by rw [hRs]; show _ + 0 ≤ _; omega⟩) hh_2.1 (fun q _ h => h) (fun q h => h) (fun r_9 u_8 t_8 H_8 locs_8 ht_8 hvm_8 hr_9 hb_8 hz_8 hk_8 hS_8 => ?_)
    rw [ht_8] at hb_8
    obtain ⟨hb_8, hbE_8⟩ := hb_8
    obtain ⟨hb_81, hb_82, hb_83, hb_84, hb_85⟩ := hb_8
    have hh_8 : jSt (dC, dI) B base G0 G0 EX11_closeDocumentE s.heap 0 0 [(r0, 13, 4, .ref bo), (bo, 2, 1, .int pc), (bo, 2, 0, .ref pa), (r0, 13, 3, .ref ou), (r0, 13, 7, .ref op), (op, 1, 2, .int sz)] [] [(jFl, jLs dC dI ca G0 3 none), ([(2, 0), (2, 1)], jOl (dC, dI) G0 2 [bo, ou] s.heap), (jFy, jYb dC dI G0), (jFdo, jDcc dC dI ca G0 none ph)] H_8 locs_8 := (((hh_2.call hb_81 hb_82 hb_83 hb_84 hS_8 rfl (L1 := [(r0, 13, 4, .ref bo), (bo, 2, 1, .int pc), (bo, 2, 0, .ref pa), (r0, 13, 3, .ref ou), (r0, 13, 7, .ref op), (op, 1, 2, .int sz)]) [0, 1, 2, 3, 4, 5] rfl rfl (M1 := []) [] rfl rfl (I1 := [([(2, 0), (2, 1)], jOl (dC, dI) G0 2 [bo, ou] s.heap), (jFy, jYb dC dI G0), (jFdo, jDcc dC dI ca G0 none ph)]) [1, 2, 3] rfl rfl).more hb_85)).addIs hbE_8
    clear hh_2 ht_8 hvm_8 hz_8 hk_8 hS_8 hb_81 hb_82 hb_83 hb_84 hb_85
    clear  hbE_8
    obtain ⟨hr_9_0, hr_9_1⟩ := hr_9
    refine lv_istore_n (lv' := [(2, .int r_9), (1, .ref ret_4), (0, .ref r0)]) hx hb dX11_closeDocument_10 rfl hl (by decide) rfl (fun ls hl => ?_)
    refine lv_aload_n hx hb dX11_closeDocument_11 rfl (lv_at hl 1 rfl) ?_
    refine lv_ifnull hx hb dX11_closeDocument_12 ?_
    refine lv_iload_n hx hb dX11_closeDocument_15 rfl (lv_at hl 0 rfl) ?_
    refine lv_if_ge (tgt := 20) hx hb dX11_closeDocument_16 (by decide) (fun c_10 => ?_) (fun c_10 => ?_)
    · skip
      have c_10' : r_9.toInt ≥ 0 := jb_ge (rfl) ((by decide)) c_10
      first | (have hr_9_1q := hr_9_1.resolve_left (by omega); clear hr_9_1) | (have hr_9_1q := hr_9_1.resolve_right (by omega); clear hr_9_1) | skip
      obtain ⟨yb_11, ye_11, w_11, pho_11, fb_11, fe_11, ps_11, pk_11, vc_11, hgb_11, hge_11, h5_11, h6_11, hd_11, hpq_11, hE_11, hpl_11, hpw_11⟩ := jDcc.opn (hh_8.iv 3 rfl) hg_ret_4
      have hpw_11 := hpw_11 rfl
      have hh_13 := hh_8.sub (L1 := [(r0, 13, 4, .ref bo), (bo, 2, 1, .int pc), (bo, 2, 0, .ref pa), (r0, 13, 3, .ref ou), (r0, 13, 7, .ref op), (op, 1, 2, .int sz)]) [0, 1, 2, 3, 4, 5] rfl (M1 := []) [] rfl (I1 := [(jFl, jLs dC dI ca G0 3 none), ([(2, 0), (2, 1)], jOl (dC, dI) G0 2 [bo, ou] s.heap), (jFy, jYb dC dI G0)]) [0, 1, 2] rfl
      clear hh_8
      have hh_14 := (hh_13.more (P1 := [(ret_4, 3, 4, .int ps_11), (ret_4, 3, 10, .int pk_11), (ret_4, 3, 5, .ref yb_11), (ret_4, 3, 6, .ref ye_11)]) (jP.cons hg_ret_4 (hd_11.1 _ (List.mem_of_getElem? (i := 0) rfl)).2 (jP.cons hg_ret_4 (hd_11.1 _ (List.mem_of_getElem? (i := 1) rfl)).2 (jP.cons hg_ret_4 h5_11 (jP.cons hg_ret_4 h6_11 jP.nil))))).moreM hd_11.2.1
      have hh_15 := hh_14.addI (jDcc.ie hE_11)
      clear hh_14
      have hps_11 := hd_11.2.2.2
      have hsn_11 := hd_11.2.2.1
      obtain ⟨v_16, hv_16, hh_11⟩ := hh_15.pin (C := RX1) (T := TX1) (N := 17) hB3 rfl (by decide) hg_ret_4 (i := 11) (by decide) rfl
      have hvq_11 : vc_11 = v_16 := jf.uniq (hd_11.1 _ (List.mem_of_getElem? (i := 2) rfl)).2 (hh_11.at 0 rfl)
      subst hvq_11
      clear hh_15
      rcases hv_16 with rfl | ⟨chk_17, nchk_17, rfl, hg_chk_17, hlen_chk_17⟩
      · have hpo_11 := jPo.nul (hpq_11 rfl)
        refine lv_aload_n hx hb dX11_closeDocument_20 rfl (lv_at hl 2 rfl) ?_
        refine lv_aload_n hx hb dX11_closeDocument_21 rfl (lv_at hl 1 rfl) ?_
        have hsz_19 := hh_11.2.2.2.2.2.1
        have htt_19 := hh_11.2.2.2.2.2.2.1
        refine W.room (fun hrc_19 hrs_19 => ?_)
        refine va_callv (A0 := jA base) (H0 := s.heap) (va_runV (As := [.ref ret_4]) (rest := []) ⟨hx, hb, hml, hown, hts⟩ (uX11_releaseE l dC dI ca base B hB hAp hB3 hB11 hB13 hB101 hB212 G0 H_8 r0 ret_4 yb_11 ye_11 (pho_11)) (cwV 1 hts (jgV (jWr_43 _ (List.mem_of_getElem? (i := 3) rfl)) (jWr_43 _ (List.mem_of_getElem? (i := 4) rfl)) (jWr_43 _ (List.mem_of_getElem? (i := 5) rfl)) (jWr_1 _ (List.mem_of_getElem? (i := 2) rfl)) (jWr_43 _ (List.mem_of_getElem? (i := 6) rfl))) rfl rfl rfl (by decide +kernel) ⟨by rw [← hR]; exact Nat.le_of_ble_eq_true rfl, by rw [← hR]; exact Nat.le_of_ble_eq_true rfl⟩) ⟨fun a U g mk q => by obtain ⟨q0, q1, q2, qK, q10, q11, q12, q13, q14, q15, q16, q17⟩ := q; exact ⟨q0, q1, q2, jG.calling g mk a qK, (va_K.moved (Vm.Alike.refl U.vm) q10), q11, q12, q13, q14, q15, q16, q17⟩, hh_11.recv (C := RX11) (T := TX11) (N := 19) hB13 rfl (by decide) hg_r0 hK, fun U hU hW => ⟨rfl, hU, hh_11.2.1, hG.step hW hU hh_11.1, va_K.moved hW.alike hK2, hg_r0, hg_ret_4, hgb_11, hge_11, (hh_11.2.2.1.sub (L1 := [(ret_4, 3, 5, .ref yb_11), (ret_4, 3, 6, .ref ye_11)]) [3, 4] rfl), (hh_11.2.2.2.2.2.2.2.2.sub (L1 := [(jFdo, jDcc dC dI ca G0 (some ret_4) pho_11)]) [0] rfl), trivial⟩⟩ rfl rfl hl.1 rfl (lv_room (Nat.le_of_ble_eq_true rfl)) dX11_closeDocument_22 ⟨by rw [hRc]; show _ + 0 ≤ _; omega, by rw [hRs]; show _ + 0 ≤ _; omega⟩) hh_11.1 (fun q _ h => h) (fun q h => h) (fun u_19 t_19 H_19 locs_19 ht_19 hvm_19 hr_20 hb_19 hz_19 hk_19 hS_19 => ?_)
        rw [ht_19] at hb_19
        obtain ⟨hb_19, hbE_19⟩ := hb_19
        obtain ⟨hb_191, hb_192, hb_193, hb_194, hb_195⟩ := hb_19
        have hh_19 : jSt (dC, dI) B base G0 G0 EX11_closeDocumentE s.heap 0 0 [(ret_4, 3, 11, .null), (ret_4, 3, 4, .int ps_11), (ret_4, 3, 10, .int pk_11), (ret_4, 3, 5, .ref yb_11), (ret_4, 3, 6, .ref ye_11), (r0, 13, 4, .ref bo), (bo, 2, 1, .int pc), (bo, 2, 0, .ref pa), (r0, 13, 3, .ref ou), (r0, 13, 7, .ref op), (op, 1, 2, .int sz)] [(yb_11, 171, 40, ca 1, fb_11), (ye_11, 172, 40, ca 1, fe_11)] [(jFdo, jDcc dC dI ca G0 (some ret_4) pho_11), (jFl, jLs dC dI ca G0 3 none), ([(2, 0), (2, 1)], jOl (dC, dI) G0 2 [bo, ou] s.heap), (jFy, jYb dC dI G0)] H_19 locs_19 := (((hh_11.call hb_191 hb_192 hb_193 hb_194 hS_19 rfl (L1 := [(ret_4, 3, 4, .int ps_11), (ret_4, 3, 10, .int pk_11), (ret_4, 3, 5, .ref yb_11), (ret_4, 3, 6, .ref ye_11), (r0, 13, 4, .ref bo), (bo, 2, 1, .int pc), (bo, 2, 0, .ref pa), (r0, 13, 3, .ref ou), (r0, 13, 7, .ref op), (op, 1, 2, .int sz)]) [1, 2, 3, 4, 5, 6, 7, 8, 9, 10] rfl rfl (M1 := [(yb_11, 171, 40, ca 1, fb_11), (ye_11, 172, 40, ca 1, fe_11)]) [0, 1] rfl rfl (I1 := [(jFl, jLs dC dI ca G0 3 none), ([(2, 0), (2, 1)], jOl (dC, dI) G0 2 [bo, ou] s.heap), (jFy, jYb dC dI G0)]) [1, 2, 3] rfl rfl).more hb_195)).addIs hbE_19
        clear hh_11 ht_19 hvm_19 hz_19 hk_19 hS_19 hb_191 hb_192 hb_193 hb_194 hb_195
        clear  hbE_19
        obtain ⟨phn_21, hphn_21⟩ : ∃ q : Nat, q = pho_11 + (575 * (ps_11.toInt - pk_11.toInt) + (1500 - jEd fe_11 pk_11.toInt)).toNat := ⟨_, rfl⟩
        have hF_21 := jDcc.full (ph1 := phn_21) (hh_19.iv 0 rfl) hg_ret_4 (hh_19.at 3 rfl) (hh_19.at 4 rfl) ⟨(hh_19.2.2.1.sub (L1 := [(ret_4, 3, 4, .int ps_11), (ret_4, 3, 10, .int pk_11), (ret_4, 3, 11, .null)]) [1, 2, 0] rfl), (hh_19.2.2.2.2.2.2.2.1.sub (L1 := [(yb_11, 171, 40, ca 1, fb_11), (ye_11, 172, 40, ca 1, fe_11)]) [0, 1] rfl), hsn_11, by omega⟩ (w := (575 * (ps_11.toInt - pk_11.toInt) + (1500 - jEd fe_11 pk_11.toInt)).toNat) (fun _ => jPo.mkN (by omega)) (by omega) (fun _ => by omega)
        have hh_22 := hh_19.sub (L1 := [(ret_4, 3, 11, .null), (ret_4, 3, 4, .int ps_11), (ret_4, 3, 10, .int pk_11), (ret_4, 3, 5, .ref yb_11), (ret_4, 3, 6, .ref ye_11), (r0, 13, 4, .ref bo), (bo, 2, 1, .int pc), (bo, 2, 0, .ref pa), (r0, 13, 3, .ref ou), (r0, 13, 7, .ref op), (op, 1, 2, .int sz)]) [0, 1, 2, 3, 4, 5, 6, 7, 8, 9, 10] rfl (M1 := [(yb_11, 171, 40, ca 1, fb_11), (ye_11, 172, 40, ca 1, fe_11)]) [0, 1] rfl (I1 := [(jFl, jLs dC dI ca G0 3 none), ([(2, 0), (2, 1)], jOl (dC, dI) G0 2 [bo, ou] s.heap), (jFy, jYb dC dI G0)]) [1, 2, 3] rfl
        clear hh_19
        have hh_23 := hh_22.addI (jDcc.ie hF_21)
        clear hh_22
        refine lv_aload_n hx hb dX11_closeDocument_25 rfl (lv_at hl 2 rfl) ?_
        refine lv_aload_n hx hb dX11_closeDocument_26 rfl (lv_at hl 1 rfl) ?_
        have hsz_24 := hh_23.2.2.2.2.2.1
        have htt_24 := hh_23.2.2.2.2.2.2.1
        refine W.room (fun hrc_24 hrs_24 => ?_)
        refine va_callv (A0 := jA base) (H0 := s.heap) (va_runV (As := [.ref ret_4]) (rest := []) ⟨hx, hb, hml, hown, hts⟩ (uX11_dismiss l dC dI ca base B hB hAp hB1 hB2 hB3 hB4 hB10 hB13 hB196 hB222 G0 H_19 r0 ret_4 bo pc pa n_pa ou op sz LC LS) (cwV 1 hts (jgV (jWr_42 _ (List.mem_of_getElem? (i := 1) rfl)) (jWr_42 _ (List.mem_of_getElem? (i := 2) rfl)) (jWr_42 _ (List.mem_of_getElem? (i := 3) rfl)) (jWr_1 _ (List.mem_of_getElem? (i := 2) rfl)) (jWr_42 _ (List.mem_of_getElem? (i := 4) rfl))) rfl rfl rfl (by decide +kernel) ⟨by rw [← hR]; exact Nat.le_of_ble_eq_true rfl, by rw [← hR]; exact Nat.le_of_ble_eq_true rfl⟩) ⟨fun a U g mk q => by obtain ⟨q0, q1, q2, qK, q10, q11, q12, q13, q14, q15, q16, q17, q18, q19, q20⟩ := q; exact ⟨q0, q1, q2, jG.calling g mk a qK, (jK5.moved (Vm.Alike.refl U.vm) q10), (jK7.calling g mk a q11), q12, q13, q14, q15, q16, q17, q18, q19, q20⟩, hh_23.recv (C := RX11) (T := TX11) (N := 19) hB13 rfl (by decide) hg_r0 hK, fun U hU hW => ⟨rfl, hU, hh_23.2.1, hG.step hW hU hh_23.1, jK5.moved hW.alike hK5, (hK7.step hW hU hh_23.1), hg_r0, hg_ret_4, hg_bo, hg_pa, hg_ou, hg_op, (hh_23.2.2.1.sub (L1 := [(r0, 13, 4, .ref bo), (bo, 2, 1, .int pc), (bo, 2, 0, .ref pa), (r0, 13, 3, .ref ou), (r0, 13, 7, .ref op), (op, 1, 2, .int sz)]) [5, 6, 7, 8, 9, 10] rfl), (hh_23.2.2.2.2.2.2.2.2.sub (L1 := [(jFy, jYb dC dI G0), (jFl, jLs dC dI ca G0 3 none)]) [3, 1] rfl), (by omega), (by omega), ⟨(by first | omega | rfl | assumption | fail), (by first | omega | rfl | assumption | fail), (by first | omega | rfl | assumption | fail), (by first | omega | rfl | assumption | fail), (by first | assumption | fail | omega)⟩⟩⟩ rfl rfl hl.1 rfl (lv_room (Nat.le_of_ble_eq_true rfl)) dX11_closeDocument_27 ⟨by rw [hRc]; omega, by rw [hRs]; omega⟩) hh_23.1 (fun q _ h => h) (fun q h => h) (fun u_24 t_24 H_24 locs_24 ht_24 hvm_24 hr_25 hb_24 hz_24 hk_24 hS_24 => ?_)
        obtain ⟨qc_24, qz_24, qa_24, m_qa_24, G_24⟩ := u_24
        rw [ht_24] at hb_24
        simp only at hb_24
        obtain ⟨⟨hb_241, hb_242, hb_243, hb_244, hb_245, hb_246⟩, hgq_24_0, hN_24, hbO_24, hbE_24⟩ := hb_24
        have hh_24 : jSt (dC, dI) B base G0 G_24 EX11_closeDocumentE s.heap (0 + ((m_qa_24 - n_pa) / 16)) (0 + (2 * (m_qa_24 - n_pa))) [(bo, 2, 1, .int qc_24), (op, 1, 2, .int qz_24), (bo, 2, 0, .ref qa_24), (ret_4, 3, 11, .null), (ret_4, 3, 4, .int ps_11), (ret_4, 3, 10, .int pk_11), (ret_4, 3, 5, .ref yb_11), (ret_4, 3, 6, .ref ye_11), (r0, 13, 4, .ref bo), (r0, 13, 3, .ref ou), (r0, 13, 7, .ref op)] [(yb_11, 171, 40, ca 1, fb_11), (ye_11, 172, 40, ca 1, fe_11)] [(jFdo, jDcc dC dI ca G0 none phn_21)] H_24 locs_24 := (hh_23.callG hb_241 hb_242 hb_243 hb_244 hb_245 hS_24 rfl (L1 := [(ret_4, 3, 11, .null), (ret_4, 3, 4, .int ps_11), (ret_4, 3, 10, .int pk_11), (ret_4, 3, 5, .ref yb_11), (ret_4, 3, 6, .ref ye_11), (r0, 13, 4, .ref bo), (r0, 13, 3, .ref ou), (r0, 13, 7, .ref op)]) [0, 1, 2, 3, 4, 5, 8, 9] rfl rfl (M1 := [(yb_11, 171, 40, ca 1, fb_11), (ye_11, 172, 40, ca 1, fe_11)]) [0, 1] rfl rfl (I1 := [(jFdo, jDcc dC dI ca G0 none phn_21)]) [0] rfl rfl).more hb_246
        have hNn_24 : (jNk [0, 1, 2, 3, 4, 5, 6, 7, 8, 9, 10, 11, 12, 13, 14, 15, 16]) G0 G_24 := (jNk.rf).tr hN_24
        have hg_26 := hb_242 _ _ hg_ret_4
        have hg_27 := hb_242 _ _ hg_r0
        have hg_28 := hb_242 _ _ hgb_11
        have hg_29 := hb_242 _ _ hge_11
        have hg_30 := hb_242 _ _ hg_bo
        have hg_31 := hb_242 _ _ hg_ou
        have hg_32 := hb_242 _ _ hg_op
        have hd_33 := jDcc.grow (hh_24.iv 0 rfl) hb_242 hN_24 (by decide)
        have hh_34 := hh_24.sub (L1 := [(bo, 2, 1, .int qc_24), (op, 1, 2, .int qz_24), (bo, 2, 0, .ref qa_24), (ret_4, 3, 11, .null), (ret_4, 3, 4, .int ps_11), (ret_4, 3, 10, .int pk_11), (ret_4, 3, 5, .ref yb_11), (ret_4, 3, 6, .ref ye_11), (r0, 13, 4, .ref bo), (r0, 13, 3, .ref ou), (r0, 13, 7, .ref op)]) [0, 1, 2, 3, 4, 5, 6, 7, 8, 9, 10] rfl (M1 := [(yb_11, 171, 40, ca 1, fb_11), (ye_11, 172, 40, ca 1, fe_11)]) [0, 1] rfl (I1 := []) [] rfl
        clear hh_24
        have hh_35 := hh_34.addI (jDcc.ie hd_33)
        clear hh_34
        have hh_36 := hh_35.addIs hbE_24
        have hd_37 := jOl.trL (hh_23.iv 2 rfl) hh_23.2.2.2.2.1 hbO_24 (by simp)
        have hh_38 := hh_36.addI (jOl.ie (dC := dC) (dI := dI) (G0 := G0) (k := 2) (rs := [bo, ou]) (H0 := s.heap) (F := [(2, 0), (2, 1)]) (C := RX0) (T := TX0) (N := 2) rfl (by decide) hh_36.2.2.2.2.1 (hd_37))
        clear hh_36
        try simp only at hr_25
        obtain ⟨hr_25_0, hr_25_1, hr_25_2, hr_25_3, hr_25_4, hr_25_5⟩ := hr_25
        have hh_39 := hh_38.wk (zc1 := (m_qa_24 - n_pa) / 16) (zs1 := 2 * (m_qa_24 - n_pa)) (by omega) (by omega)
        clear hh_38
        try clear hsz_24 htt_24 hrc_24 hrs_24
        try clear hb_244 hb_245
        refine lv_aload_n hx hb dX11_closeDocument_30 rfl (lv_at hl 2 rfl) ?_
        refine j7_read hx hb hown hK (C := RX11) (T := TX11) (N := 19) rfl hly_13_7 hlk_61 (hh_39.at 10 rfl) dX11_closeDocument_31 ?_
        refine lv_iload_n hx hb dX11_closeDocument_34 rfl (lv_at hl 0 rfl) ?_
        have hsz_40 := hh_39.2.2.2.2.2.1
        have htt_40 := hh_39.2.2.2.2.2.2.1
        refine W.room (fun hrc_40 hrs_40 => ?_)
        refine j_callFx (A0 := jA base) (H0 := s.heap) (va_runF (hK.1 1 _ rfl).2 (As := [.int r_9]) (rest := []) ⟨hx, hb, hml, hown, hts⟩ (uJx4a65c_remove_915e3L1 l dC dI ca base B hB hAp hB1 hB3 hB221 G_24 H_24 op r_9 qz_24) (va_cwF 1 hts (jgF (jWr_42 _ (List.mem_of_getElem? (i := 7) rfl)) (jWr_42 _ (List.mem_of_getElem? (i := 8) rfl)) (jWr_42 _ (List.mem_of_getElem? (i := 9) rfl)) (jWr_2 _ (List.mem_of_getElem? (i := 13) rfl)) (jWr_42 _ (List.mem_of_getElem? (i := 10) rfl))) rfl rfl rfl hK7.2.2.2.2.2.1.2.2.2 ⟨by decide, by decide, by decide +kernel⟩ ⟨by rw [← hR]; exact Nat.le_of_ble_eq_true rfl, by rw [← hR]; exact Nat.le_of_ble_eq_true rfl⟩) ⟨fun a U g mk q => by obtain ⟨q0, q1, q2, qK, q10, q11, q12, q13, q14⟩ := q; exact ⟨q0, q1, q2, jG.calling g mk a qK, (jK7.calling g mk a q10), q11, q12, q13, q14⟩, hh_39.recv (C := RJx4a65c) (T := TJx4a65c) (N := 3) hB1 rfl (by decide) hg_32 hK, fun U hU hW => ⟨rfl, hU, hh_39.2.1, hG.step hW hU hh_39.1, (hK7.step hW hU hh_39.1), hg_32, (hh_39.2.2.1.sub (L1 := [(op, 1, 2, .int qz_24)]) [1] rfl), (hh_39.2.2.2.2.2.2.2.2.sub (L1 := [(jFl, jLs dC dI ca G_24 3 none)]) [2] rfl), ⟨(by first | omega | rfl | assumption | fail), (by first | omega | rfl | assumption | fail)⟩⟩⟩ rfl rfl hl.1 rfl (lv_room (Nat.le_of_ble_eq_true rfl)) dX11_closeDocument_35 ⟨by rw [hRc]; show _ + 0 ≤ _; omega, by rw [hRs]; show _ + 0 ≤ _; omega⟩) hh_39.1 (fun q _ h => h) (fun q h => h) (fun r_41 u_40 t_40 H_40 locs_40 ht_40 hvm_40 hr_41 hb_40 hz_40 hk_40 hS_40 => ?_)
        obtain ⟨qz_40, rfl⟩ : ∃ z, z = u_40 := ⟨_, rfl⟩
        rw [ht_40] at hb_40
        obtain ⟨hb_40, hbE_40⟩ := hb_40
        obtain ⟨hb_40, hbO_40⟩ := hb_40
        obtain ⟨hb_401, hb_402, hb_403, hb_404, hb_405⟩ := hb_40
        have hh_40 : jSt (dC, dI) B base G0 G_24 EX11_closeDocumentE s.heap ((m_qa_24 - n_pa) / 16) (2 * (m_qa_24 - n_pa)) [(op, 1, 2, .int qz_40), (bo, 2, 1, .int qc_24), (bo, 2, 0, .ref qa_24), (ret_4, 3, 11, .null), (ret_4, 3, 4, .int ps_11), (ret_4, 3, 10, .int pk_11), (ret_4, 3, 5, .ref yb_11), (ret_4, 3, 6, .ref ye_11), (r0, 13, 4, .ref bo), (r0, 13, 3, .ref ou), (r0, 13, 7, .ref op)] [(yb_11, 171, 40, ca 1, fb_11), (ye_11, 172, 40, ca 1, fe_11)] [(jFl, jLs dC dI ca G_24 3 none), ([(2, 0), (2, 1)], jOl (dC, dI) G0 2 [bo, ou] s.heap), (jFy, jYb dC dI G_24), (jFdo, jDcc dC dI ca G_24 none phn_21)] H_40 locs_40 := (((hh_39.call hb_401 hb_402 hb_403 hb_404 hS_40 rfl (L1 := [(bo, 2, 1, .int qc_24), (bo, 2, 0, .ref qa_24), (ret_4, 3, 11, .null), (ret_4, 3, 4, .int ps_11), (ret_4, 3, 10, .int pk_11), (ret_4, 3, 5, .ref yb_11), (ret_4, 3, 6, .ref ye_11), (r0, 13, 4, .ref bo), (r0, 13, 3, .ref ou), (r0, 13, 7, .ref op)]) [0, 2, 3, 4, 5, 6, 7, 8, 9, 10] rfl rfl (M1 := [(yb_11, 171, 40, ca 1, fb_11), (ye_11, 172, 40, ca 1, fe_11)]) [0, 1] rfl rfl (I1 := [([(2, 0), (2, 1)], jOl (dC, dI) G0 2 [bo, ou] s.heap), (jFy, jYb dC dI G_24), (jFdo, jDcc dC dI ca G_24 none phn_21)]) [0, 1, 3] rfl rfl).more hb_405)).addIs hbE_40
        clear hh_39 ht_40 hvm_40 hz_40 hk_40 hS_40 hb_401 hb_402 hb_403 hb_404 hb_405
        clear  hbE_40
        obtain ⟨hr_41, hr_41p⟩ := hr_41
        obtain ⟨ret_42, rfl, hg_ret_42⟩ := hr_41
        refine lv_pop hx hb dX11_closeDocument_40 rfl ?_
        refine lv_aload_n hx hb dX11_closeDocument_41 rfl (lv_at hl 2 rfl) ?_
        refine lv_aload_n hx hb dX11_closeDocument_42 rfl (lv_at hl 1 rfl) ?_
        refine lv_iconst (v := 0) hx hb dX11_closeDocument_43 (by decide) ?_
        have hsz_43 := hh_40.2.2.2.2.2.1
        have htt_43 := hh_40.2.2.2.2.2.2.1
        refine W.room (fun hrc_43 hrs_43 => ?_)
        refine va_callv (A0 := jA base) (H0 := s.heap) (va_runV (As := [.ref ret_4, .int 0]) (rest := []) ⟨hx, hb, hml, hown, hts⟩ (uX11_publish l dC dI ca base B hB hAp hB2 hB3 hB4 hB11 hB13 hB101 hB171 hB172 hB196 hB210 G_24 H_40 r0 ret_4 0 bo qc_24 qa_24 m_qa_24 ou LC LS) (cwV 2 hts (jgV (jWr_39 _ (List.mem_of_getElem? (i := 19) rfl)) (jWr_39 _ (List.mem_of_getElem? (i := 20) rfl)) (jWr_39 _ (List.mem_of_getElem? (i := 21) rfl)) (jWr_1 _ (List.mem_of_getElem? (i := 2) rfl)) (jWr_39 _ (List.mem_of_getElem? (i := 22) rfl))) rfl rfl rfl (by decide +kernel) ⟨by rw [← hR]; exact Nat.le_of_ble_eq_true rfl, by rw [← hR]; exact Nat.le_of_ble_eq_true rfl⟩) ⟨fun a U g mk q => by obtain ⟨q0, q1, q2, qK, q10, q11, q12, q13, q14, q15, q16, q17, q18, q19⟩ := q; exact ⟨q0, q1, q2, jG.calling g mk a qK, (va_K.moved (Vm.Alike.refl U.vm) q10), q11, q12, q13, q14, q15, q16, q17, q18, q19⟩, hh_40.recv (C := RX11) (T := TX11) (N := 19) hB13 rfl (by decide) hg_27 hK, fun U hU hW => ⟨rfl, hU, hh_40.2.1, hG.step hW hU hh_40.1, va_K.moved hW.alike hK2, hg_26, hg_27, (Or.inl rfl), hg_30, hgq_24_0, hg_31, (hh_40.2.2.1.sub (L1 := [(r0, 13, 4, .ref bo), (bo, 2, 1, .int qc_24), (bo, 2, 0, .ref qa_24), (r0, 13, 3, .ref ou)]) [8, 1, 2, 9] rfl), (hh_40.2.2.2.2.2.2.2.2.sub (L1 := [(jFy, jYb dC dI G_24)]) [2] rfl), (by omega), (by omega), ⟨(by first | omega | rfl | assumption | fail), (by first | omega | rfl | assumption | fail), (by first | omega | rfl | assumption | fail), (by first | omega | rfl | assumption | fail), (by first | assumption | fail | omega)⟩⟩⟩ rfl rfl hl.1 rfl (lv_room (Nat.le_of_ble_eq_true rfl)) dX11_closeDocument_44 ⟨by rw [hRc]; omega, by rw [hRs]; omega⟩) hh_40.1 (fun q _ h => h) (fun q h => h) (fun u_43 t_43 H_43 locs_43 ht_43 hvm_43 hr_44 hb_43 hz_43 hk_43 hS_43 => ?_)
        obtain ⟨qc_43, qa_43, m_qa_43, G_43⟩ := u_43
        rw [ht_43] at hb_43
        simp only at hb_43
        obtain ⟨⟨hb_431, hb_432, hb_433, hb_434, hb_435, hb_436⟩, hgq_43_0, hN_43, hbO_43, hbE_43⟩ := hb_43
        have hh_43 : jSt (dC, dI) B base G0 G_43 EX11_closeDocumentE s.heap (((m_qa_24 - n_pa) / 16) + ((m_qa_43 - m_qa_24) / 16)) ((2 * (m_qa_24 - n_pa)) + (2 * (m_qa_43 - m_qa_24))) [(bo, 2, 1, .int qc_43), (bo, 2, 0, .ref qa_43), (op, 1, 2, .int qz_40), (ret_4, 3, 11, .null), (ret_4, 3, 4, .int ps_11), (ret_4, 3, 10, .int pk_11), (ret_4, 3, 5, .ref yb_11), (ret_4, 3, 6, .ref ye_11), (r0, 13, 4, .ref bo), (r0, 13, 3, .ref ou), (r0, 13, 7, .ref op)] [(yb_11, 171, 40, ca 1, fb_11), (ye_11, 172, 40, ca 1, fe_11)] [(jFl, jLs dC dI ca G_24 3 none), (jFdo, jDcc dC dI ca G_24 none phn_21)] H_43 locs_43 := (hh_40.callG hb_431 hb_432 hb_433 hb_434 hb_435 hS_43 rfl (L1 := [(op, 1, 2, .int qz_40), (ret_4, 3, 11, .null), (ret_4, 3, 4, .int ps_11), (ret_4, 3, 10, .int pk_11), (ret_4, 3, 5, .ref yb_11), (ret_4, 3, 6, .ref ye_11), (r0, 13, 4, .ref bo), (r0, 13, 3, .ref ou), (r0, 13, 7, .ref op)]) [0, 3, 4, 5, 6, 7, 8, 9, 10] rfl rfl (M1 := [(yb_11, 171, 40, ca 1, fb_11), (ye_11, 172, 40, ca 1, fe_11)]) [0, 1] rfl rfl (I1 := [(jFl, jLs dC dI ca G_24 3 none), (jFdo, jDcc dC dI ca G_24 none phn_21)]) [0, 3] rfl rfl).more hb_436
        have hNn_43 : (jNk [0, 1, 2, 3, 4, 5, 6, 7, 8, 9, 10, 11, 12, 13, 14, 15, 16]) G0 G_43 := (hNn_24).tr hN_43
        have hg_45 := hb_432 _ _ hg_26
        have hg_46 := hb_432 _ _ hg_27
        have hg_47 := hb_432 _ _ hg_28
        have hg_48 := hb_432 _ _ hg_29
        have hg_49 := hb_432 _ _ hg_30
        have hg_50 := hb_432 _ _ hg_31
        have hg_51 := hb_432 _ _ hg_32
        have hd_52 := jLs.grow (hh_43.iv 0 rfl) hb_432 hN_43 (by decide)
        have hh_53 := hh_43.sub (L1 := [(bo, 2, 1, .int qc_43), (bo, 2, 0, .ref qa_43), (op, 1, 2, .int qz_40), (ret_4, 3, 11, .null), (ret_4, 3, 4, .int ps_11), (ret_4, 3, 10, .int pk_11), (ret_4, 3, 5, .ref yb_11), (ret_4, 3, 6, .ref ye_11), (r0, 13, 4, .ref bo), (r0, 13, 3, .ref ou), (r0, 13, 7, .ref op)]) [0, 1, 2, 3, 4, 5, 6, 7, 8, 9, 10] rfl (M1 := [(yb_11, 171, 40, ca 1, fb_11), (ye_11, 172, 40, ca 1, fe_11)]) [0, 1] rfl (I1 := [(jFdo, jDcc dC dI ca G_24 none phn_21)]) [1] rfl
        clear hh_43
        have hh_54 := hh_53.addI (jLs.ie hd_52)
        clear hh_53
        have hd_55 := jDcc.grow (hh_54.iv 1 rfl) hb_432 hN_43 (by decide)
        have hh_56 := hh_54.sub (L1 := [(bo, 2, 1, .int qc_43), (bo, 2, 0, .ref qa_43), (op, 1, 2, .int qz_40), (ret_4, 3, 11, .null), (ret_4, 3, 4, .int ps_11), (ret_4, 3, 10, .int pk_11), (ret_4, 3, 5, .ref yb_11), (ret_4, 3, 6, .ref ye_11), (r0, 13, 4, .ref bo), (r0, 13, 3, .ref ou), (r0, 13, 7, .ref op)]) [0, 1, 2, 3, 4, 5, 6, 7, 8, 9, 10] rfl (M1 := [(yb_11, 171, 40, ca 1, fb_11), (ye_11, 172, 40, ca 1, fe_11)]) [0, 1] rfl (I1 := [(jFl, jLs dC dI ca G_43 3 none)]) [0] rfl
        clear hh_54
        have hh_57 := hh_56.addI (jDcc.ie hd_55)
        clear hh_56
        have hh_58 := hh_57.addIs hbE_43
        have hd_59 := jOl.trL (hh_40.iv 1 rfl) hh_40.2.2.2.2.1 hbO_43 (by simp)
        have hh_60 := hh_58.addI (jOl.ie (dC := dC) (dI := dI) (G0 := G0) (k := 2) (rs := [bo, ou]) (H0 := s.heap) (F := [(2, 0), (2, 1)]) (C := RX0) (T := TX0) (N := 2) rfl (by decide) hh_58.2.2.2.2.1 (hd_59))
        clear hh_58
        try simp only at hr_44
        obtain ⟨hr_44_0, hr_44_1, hr_44_2, hr_44_3, hr_44_4⟩ := hr_44
        have hh_61 := hh_60.wk (zc1 := (m_qa_43 - n_pa) / 16) (zs1 := 2 * (m_qa_43 - n_pa)) (by omega) (by omega)
        clear hh_60
        try clear hsz_43 htt_43 hrc_43 hrs_43
        try clear hb_434 hb_435
        have hsz_62 := hh_61.2.2.2.2.2.1
        have htt_62 := hh_61.2.2.2.2.2.2.1
        refine W.room (fun hrc_62 hrs_62 => ?_)
        refine W.widen (k := LC - s.heap.size) (n := LS - jTot s.heap) (by omega) (by omega) ?_
        rw [hQ]
        exact W.vret hx hb hr (fun t ht hW => ⟨⟨(qc_43, qa_43, m_qa_43, phn_21, G_43), rfl, by (try dsimp only); exact ⟨(by first | omega | rfl | assumption | fail), (by first | omega | rfl | assumption | fail), (by first | omega | rfl | assumption | fail), (by first | omega | rfl | assumption | fail), (by first | assumption | fail | omega), (by first | omega | rfl | assumption | fail)⟩, ⟨hh_61.ra (by first | omega | (simp only; omega)) (by first | omega | (simp only; omega)) (M1 := [(bo, 2, 1, .int qc_43), (bo, 2, 0, .ref qa_43)]) [0, 1] rfl ht, hgq_43_0, hNn_43, by rw [ht]; exact hh_61.iv 0 rfl, by rw [ht]; exact hh_61.2.2.2.2.2.2.2.2.sub (L1 := [(jFy, jYb dC dI G_43), (jFl, jLs dC dI ca G_43 3 none), (jFdo, jDcc dC dI ca G_43 none phn_21)]) [1, 3, 2] rfl⟩⟩, by rw [ht]; try exact hh_61.1.1, fun q h9 hq => by rw [ht]; try exact hh_61.1.2.1 q h9 hq⟩) hh_61.1.2.2 dX11_closeDocument_47
      · have hpo_11 := jPo.rf (hpq_11 rfl)
        have hnx_11 := jEd.nx hsn_11 (k := pk_11.toInt) (by omega) (by omega)
        refine lv_aload_n hx hb dX11_closeDocument_20 rfl (lv_at hl 2 rfl) ?_
        refine lv_aload_n hx hb dX11_closeDocument_21 rfl (lv_at hl 1 rfl) ?_
        have hsz_64 := hh_11.2.2.2.2.2.1
        have htt_64 := hh_11.2.2.2.2.2.2.1
        refine W.room (fun hrc_64 hrs_64 => ?_)
        refine va_callv (A0 := jA base) (H0 := s.heap) (va_runV (As := [.ref ret_4]) (rest := []) ⟨hx, hb, hml, hown, hts⟩ (uX11_releaseE l dC dI ca base B hB hAp hB3 hB11 hB13 hB101 hB212 G0 H_8 r0 ret_4 yb_11 ye_11 (pho_11)) (cwV 1 hts (jgV (jWr_43 _ (List.mem_of_getElem? (i := 3) rfl)) (jWr_43 _ (List.mem_of_getElem? (i := 4) rfl)) (jWr_43 _ (List.mem_of_getElem? (i := 5) rfl)) (jWr_1 _ (List.mem_of_getElem? (i := 2) rfl)) (jWr_43 _ (List.mem_of_getElem? (i := 6) rfl))) rfl rfl rfl (by decide +kernel) ⟨by rw [← hR]; exact Nat.le_of_ble_eq_true rfl, by rw [← hR]; exact Nat.le_of_ble_eq_true rfl⟩) ⟨fun a U g mk q => by obtain ⟨q0, q1, q2, qK, q10, q11, q12, q13, q14, q15, q16, q17⟩ := q; exact ⟨q0, q1, q2, jG.calling g mk a qK, (va_K.moved (Vm.Alike.refl U.vm) q10), q11, q12, q13, q14, q15, q16, q17⟩, hh_11.recv (C := RX11) (T := TX11) (N := 19) hB13 rfl (by decide) hg_r0 hK, fun U hU hW => ⟨rfl, hU, hh_11.2.1, hG.step hW hU hh_11.1, va_K.moved hW.alike hK2, hg_r0, hg_ret_4, hgb_11, hge_11, (hh_11.2.2.1.sub (L1 := [(ret_4, 3, 5, .ref yb_11), (ret_4, 3, 6, .ref ye_11)]) [3, 4] rfl), (hh_11.2.2.2.2.2.2.2.2.sub (L1 := [(jFdo, jDcc dC dI ca G0 (some ret_4) pho_11)]) [0] rfl), trivial⟩⟩ rfl rfl hl.1 rfl (lv_room (Nat.le_of_ble_eq_true rfl)) dX11_closeDocument_22 ⟨by rw [hRc]; show _ + 0 ≤ _; omega, by rw [hRs]; show _ + 0 ≤ _; omega⟩) hh_11.1 (fun q _ h => h) (fun q h => h) (fun u_64 t_64 H_64 locs_64 ht_64 hvm_64 hr_65 hb_64 hz_64 hk_64 hS_64 => ?_)
        rw [ht_64] at hb_64
        obtain ⟨hb_64, hbE_64⟩ := hb_64
        obtain ⟨hb_641, hb_642, hb_643, hb_644, hb_645⟩ := hb_64
        have hh_64 : jSt (dC, dI) B base G0 G0 EX11_closeDocumentE s.heap 0 0 [(ret_4, 3, 11, .null), (ret_4, 3, 4, .int ps_11), (ret_4, 3, 10, .int pk_11), (ret_4, 3, 5, .ref yb_11), (ret_4, 3, 6, .ref ye_11), (r0, 13, 4, .ref bo), (bo, 2, 1, .int pc), (bo, 2, 0, .ref pa), (r0, 13, 3, .ref ou), (r0, 13, 7, .ref op), (op, 1, 2, .int sz)] [(yb_11, 171, 40, ca 1, fb_11), (ye_11, 172, 40, ca 1, fe_11)] [(jFdo, jDcc dC dI ca G0 (some ret_4) pho_11), (jFl, jLs dC dI ca G0 3 none), ([(2, 0), (2, 1)], jOl (dC, dI) G0 2 [bo, ou] s.heap), (jFy, jYb dC dI G0)] H_64 locs_64 := (((hh_11.call hb_641 hb_642 hb_643 hb_644 hS_64 rfl (L1 := [(ret_4, 3, 4, .int ps_11), (ret_4, 3, 10, .int pk_11), (ret_4, 3, 5, .ref yb_11), (ret_4, 3, 6, .ref ye_11), (r0, 13, 4, .ref bo), (bo, 2, 1, .int pc), (bo, 2, 0, .ref pa), (r0, 13, 3, .ref ou), (r0, 13, 7, .ref op), (op, 1, 2, .int sz)]) [1, 2, 3, 4, 5, 6, 7, 8, 9, 10] rfl rfl (M1 := [(yb_11, 171, 40, ca 1, fb_11), (ye_11, 172, 40, ca 1, fe_11)]) [0, 1] rfl rfl (I1 := [(jFl, jLs dC dI ca G0 3 none), ([(2, 0), (2, 1)], jOl (dC, dI) G0 2 [bo, ou] s.heap), (jFy, jYb dC dI G0)]) [1, 2, 3] rfl rfl).more hb_645)).addIs hbE_64
        clear hh_11 ht_64 hvm_64 hz_64 hk_64 hS_64 hb_641 hb_642 hb_643 hb_644 hb_645
        clear  hbE_64
        obtain ⟨phn_66, hphn_66⟩ : ∃ q : Nat, q = pho_11 + (575 * (ps_11.toInt - pk_11.toInt) + (1500 - jEd fe_11 pk_11.toInt)).toNat := ⟨_, rfl⟩
        have hF_66 := jDcc.full (ph1 := phn_66) (hh_64.iv 0 rfl) hg_ret_4 (hh_64.at 3 rfl) (hh_64.at 4 rfl) ⟨(hh_64.2.2.1.sub (L1 := [(ret_4, 3, 4, .int ps_11), (ret_4, 3, 10, .int pk_11), (ret_4, 3, 11, .null)]) [1, 2, 0] rfl), (hh_64.2.2.2.2.2.2.2.1.sub (L1 := [(yb_11, 171, 40, ca 1, fb_11), (ye_11, 172, 40, ca 1, fe_11)]) [0, 1] rfl), hsn_11, by omega⟩ (w := (575 * (ps_11.toInt - pk_11.toInt) + (1500 - jEd fe_11 pk_11.toInt)).toNat) (fun _ => jPo.mkN (by omega)) (by omega) (fun _ => by omega)
        have hh_67 := hh_64.sub (L1 := [(ret_4, 3, 11, .null), (ret_4, 3, 4, .int ps_11), (ret_4, 3, 10, .int pk_11), (ret_4, 3, 5, .ref yb_11), (ret_4, 3, 6, .ref ye_11), (r0, 13, 4, .ref bo), (bo, 2, 1, .int pc), (bo, 2, 0, .ref pa), (r0, 13, 3, .ref ou), (r0, 13, 7, .ref op), (op, 1, 2, .int sz)]) [0, 1, 2, 3, 4, 5, 6, 7, 8, 9, 10] rfl (M1 := [(yb_11, 171, 40, ca 1, fb_11), (ye_11, 172, 40, ca 1, fe_11)]) [0, 1] rfl (I1 := [(jFl, jLs dC dI ca G0 3 none), ([(2, 0), (2, 1)], jOl (dC, dI) G0 2 [bo, ou] s.heap), (jFy, jYb dC dI G0)]) [1, 2, 3] rfl
        clear hh_64
        have hh_68 := hh_67.addI (jDcc.ie hF_66)
        clear hh_67
        refine lv_aload_n hx hb dX11_closeDocument_25 rfl (lv_at hl 2 rfl) ?_
        refine lv_aload_n hx hb dX11_closeDocument_26 rfl (lv_at hl 1 rfl) ?_
        have hsz_69 := hh_68.2.2.2.2.2.1
        have htt_69 := hh_68.2.2.2.2.2.2.1
        refine W.room (fun hrc_69 hrs_69 => ?_)
        refine va_callv (A0 := jA base) (H0 := s.heap) (va_runV (As := [.ref ret_4]) (rest := []) ⟨hx, hb, hml, hown, hts⟩ (uX11_dismiss l dC dI ca base B hB hAp hB1 hB2 hB3 hB4 hB10 hB13 hB196 hB222 G0 H_64 r0 ret_4 bo pc pa n_pa ou op sz LC LS) (cwV 1 hts (jgV (jWr_42 _ (List.mem_of_getElem? (i := 1) rfl)) (jWr_42 _ (List.mem_of_getElem? (i := 2) rfl)) (jWr_42 _ (List.mem_of_getElem? (i := 3) rfl)) (jWr_1 _ (List.mem_of_getElem? (i := 2) rfl)) (jWr_42 _ (List.mem_of_getElem? (i := 4) rfl))) rfl rfl rfl (by decide +kernel) ⟨by rw [← hR]; exact Nat.le_of_ble_eq_true rfl, by rw [← hR]; exact Nat.le_of_ble_eq_true rfl⟩) ⟨fun a U g mk q => by obtain ⟨q0, q1, q2, qK, q10, q11, q12, q13, q14, q15, q16, q17, q18, q19, q20⟩ := q; exact ⟨q0, q1, q2, jG.calling g mk a qK, (jK5.moved (Vm.Alike.refl U.vm) q10), (jK7.calling g mk a q11), q12, q13, q14, q15, q16, q17, q18, q19, q20⟩, hh_68.recv (C := RX11) (T := TX11) (N := 19) hB13 rfl (by decide) hg_r0 hK, fun U hU hW => ⟨rfl, hU, hh_68.2.1, hG.step hW hU hh_68.1, jK5.moved hW.alike hK5, (hK7.step hW hU hh_68.1), hg_r0, hg_ret_4, hg_bo, hg_pa, hg_ou, hg_op, (hh_68.2.2.1.sub (L1 := [(r0, 13, 4, .ref bo), (bo, 2, 1, .int pc), (bo, 2, 0, .ref pa), (r0, 13, 3, .ref ou), (r0, 13, 7, .ref op), (op, 1, 2, .int sz)]) [5, 6, 7, 8, 9, 10] rfl), (hh_68.2.2.2.2.2.2.2.2.sub (L1 := [(jFy, jYb dC dI G0), (jFl, jLs dC dI ca G0 3 none)]) [3, 1] rfl), (by omega), (by omega), ⟨(by first | omega | rfl | assumption | fail), (by first | omega | rfl | assumption | fail), (by first | omega | rfl | assumption | fail), (by first | omega | rfl | assumption | fail), (by first | assumption | fail | omega)⟩⟩⟩ rfl rfl hl.1 rfl (lv_room (Nat.le_of_ble_eq_true rfl)) dX11_closeDocument_27 ⟨by rw [hRc]; omega, by rw [hRs]; omega⟩) hh_68.1 (fun q _ h => h) (fun q h => h) (fun u_69 t_69 H_69 locs_69 ht_69 hvm_69 hr_70 hb_69 hz_69 hk_69 hS_69 => ?_)
        obtain ⟨qc_69, qz_69, qa_69, m_qa_69, G_69⟩ := u_69
        rw [ht_69] at hb_69
        simp only at hb_69
        obtain ⟨⟨hb_691, hb_692, hb_693, hb_694, hb_695, hb_696⟩, hgq_69_0, hN_69, hbO_69, hbE_69⟩ := hb_69
        have hh_69 : jSt (dC, dI) B base G0 G_69 EX11_closeDocumentE s.heap (0 + ((m_qa_69 - n_pa) / 16)) (0 + (2 * (m_qa_69 - n_pa))) [(bo, 2, 1, .int qc_69), (op, 1, 2, .int qz_69), (bo, 2, 0, .ref qa_69), (ret_4, 3, 11, .null), (ret_4, 3, 4, .int ps_11), (ret_4, 3, 10, .int pk_11), (ret_4, 3, 5, .ref yb_11), (ret_4, 3, 6, .ref ye_11), (r0, 13, 4, .ref bo), (r0, 13, 3, .ref ou), (r0, 13, 7, .ref op)] [(yb_11, 171, 40, ca 1, fb_11), (ye_11, 172, 40, ca 1, fe_11)] [(jFdo, jDcc dC dI ca G0 none phn_66)] H_69 locs_69 := (hh_68.callG hb_691 hb_692 hb_693 hb_694 hb_695 hS_69 rfl (L1 := [(ret_4, 3, 11, .null), (ret_4, 3, 4, .int ps_11), (ret_4, 3, 10, .int pk_11), (ret_4, 3, 5, .ref yb_11), (ret_4, 3, 6, .ref ye_11), (r0, 13, 4, .ref bo), (r0, 13, 3, .ref ou), (r0, 13, 7, .ref op)]) [0, 1, 2, 3, 4, 5, 8, 9] rfl rfl (M1 := [(yb_11, 171, 40, ca 1, fb_11), (ye_11, 172, 40, ca 1, fe_11)]) [0, 1] rfl rfl (I1 := [(jFdo, jDcc dC dI ca G0 none phn_66)]) [0] rfl rfl).more hb_696
        have hNn_69 : (jNk [0, 1, 2, 3, 4, 5, 6, 7, 8, 9, 10, 11, 12, 13, 14, 15, 16]) G0 G_69 := (jNk.rf).tr hN_69
        have hg_71 := hb_692 _ _ hg_ret_4
        have hg_72 := hb_692 _ _ hg_r0
        have hg_73 := hb_692 _ _ hgb_11
        have hg_74 := hb_692 _ _ hge_11
        have hg_75 := hb_692 _ _ hg_bo
        have hg_76 := hb_692 _ _ hg_ou
        have hg_77 := hb_692 _ _ hg_op
        have hd_78 := jDcc.grow (hh_69.iv 0 rfl) hb_692 hN_69 (by decide)
        have hh_79 := hh_69.sub (L1 := [(bo, 2, 1, .int qc_69), (op, 1, 2, .int qz_69), (bo, 2, 0, .ref qa_69), (ret_4, 3, 11, .null), (ret_4, 3, 4, .int ps_11), (ret_4, 3, 10, .int pk_11), (ret_4, 3, 5, .ref yb_11), (ret_4, 3, 6, .ref ye_11), (r0, 13, 4, .ref bo), (r0, 13, 3, .ref ou), (r0, 13, 7, .ref op)]) [0, 1, 2, 3, 4, 5, 6, 7, 8, 9, 10] rfl (M1 := [(yb_11, 171, 40, ca 1, fb_11), (ye_11, 172, 40, ca 1, fe_11)]) [0, 1] rfl (I1 := []) [] rfl
        clear hh_69
        have hh_80 := hh_79.addI (jDcc.ie hd_78)
        clear hh_79
        have hh_81 := hh_80.addIs hbE_69
        have hd_82 := jOl.trL (hh_68.iv 2 rfl) hh_68.2.2.2.2.1 hbO_69 (by simp)
        have hh_83 := hh_81.addI (jOl.ie (dC := dC) (dI := dI) (G0 := G0) (k := 2) (rs := [bo, ou]) (H0 := s.heap) (F := [(2, 0), (2, 1)]) (C := RX0) (T := TX0) (N := 2) rfl (by decide) hh_81.2.2.2.2.1 (hd_82))
        clear hh_81
        try simp only at hr_70
        obtain ⟨hr_70_0, hr_70_1, hr_70_2, hr_70_3, hr_70_4, hr_70_5⟩ := hr_70
        have hh_84 := hh_83.wk (zc1 := (m_qa_69 - n_pa) / 16) (zs1 := 2 * (m_qa_69 - n_pa)) (by omega) (by omega)
        clear hh_83
        try clear hsz_69 htt_69 hrc_69 hrs_69
        try clear hb_694 hb_695
        refine lv_aload_n hx hb dX11_closeDocument_30 rfl (lv_at hl 2 rfl) ?_
        refine j7_read hx hb hown hK (C := RX11) (T := TX11) (N := 19) rfl hly_13_7 hlk_61 (hh_84.at 10 rfl) dX11_closeDocument_31 ?_
        refine lv_iload_n hx hb dX11_closeDocument_34 rfl (lv_at hl 0 rfl) ?_
        have hsz_85 := hh_84.2.2.2.2.2.1
        have htt_85 := hh_84.2.2.2.2.2.2.1
        refine W.room (fun hrc_85 hrs_85 => ?_)
        refine j_callFx (A0 := jA base) (H0 := s.heap) (va_runF (hK.1 1 _ rfl).2 (As := [.int r_9]) (rest := []) ⟨hx, hb, hml, hown, hts⟩ (uJx4a65c_remove_915e3L1 l dC dI ca base B hB hAp hB1 hB3 hB221 G_69 H_69 op r_9 qz_69) (va_cwF 1 hts (jgF (jWr_42 _ (List.mem_of_getElem? (i := 7) rfl)) (jWr_42 _ (List.mem_of_getElem? (i := 8) rfl)) (jWr_42 _ (List.mem_of_getElem? (i := 9) rfl)) (jWr_2 _ (List.mem_of_getElem? (i := 13) rfl)) (jWr_42 _ (List.mem_of_getElem? (i := 10) rfl))) rfl rfl rfl hK7.2.2.2.2.2.1.2.2.2 ⟨by decide, by decide, by decide +kernel⟩ ⟨by rw [← hR]; exact Nat.le_of_ble_eq_true rfl, by rw [← hR]; exact Nat.le_of_ble_eq_true rfl⟩) ⟨fun a U g mk q => by obtain ⟨q0, q1, q2, qK, q10, q11, q12, q13, q14⟩ := q; exact ⟨q0, q1, q2, jG.calling g mk a qK, (jK7.calling g mk a q10), q11, q12, q13, q14⟩, hh_84.recv (C := RJx4a65c) (T := TJx4a65c) (N := 3) hB1 rfl (by decide) hg_77 hK, fun U hU hW => ⟨rfl, hU, hh_84.2.1, hG.step hW hU hh_84.1, (hK7.step hW hU hh_84.1), hg_77, (hh_84.2.2.1.sub (L1 := [(op, 1, 2, .int qz_69)]) [1] rfl), (hh_84.2.2.2.2.2.2.2.2.sub (L1 := [(jFl, jLs dC dI ca G_69 3 none)]) [2] rfl), ⟨(by first | omega | rfl | assumption | fail), (by first | omega | rfl | assumption | fail)⟩⟩⟩ rfl rfl hl.1 rfl (lv_room (Nat.le_of_ble_eq_true rfl)) dX11_closeDocument_35 ⟨by rw [hRc]; show _ + 0 ≤ _; omega, by rw [hRs]; show _ + 0 ≤ _; omega⟩) hh_84.1 (fun q _ h => h) (fun q h => h) (fun r_86 u_85 t_85 H_85 locs_85 ht_85 hvm_85 hr_86 hb_85 hz_85 hk_85 hS_85 => ?_)
        obtain ⟨qz_85, rfl⟩ : ∃ z, z = u_85 := ⟨_, rfl⟩
        rw [ht_85] at hb_85
        obtain ⟨hb_85, hbE_85⟩ := hb_85
        obtain ⟨hb_85, hbO_85⟩ := hb_85
        obtain ⟨hb_851, hb_852, hb_853, hb_854, hb_855⟩ := hb_85
        have hh_85 : jSt (dC, dI) B base G0 G_69 EX11_closeDocumentE s.heap ((m_qa_69 - n_pa) / 16) (2 * (m_qa_69 - n_pa)) [(op, 1, 2, .int qz_85), (bo, 2, 1, .int qc_69), (bo, 2, 0, .ref qa_69), (ret_4, 3, 11, .null), (ret_4, 3, 4, .int ps_11), (ret_4, 3, 10, .int pk_11), (ret_4, 3, 5, .ref yb_11), (ret_4, 3, 6, .ref ye_11), (r0, 13, 4, .ref bo), (r0, 13, 3, .ref ou), (r0, 13, 7, .ref op)] [(yb_11, 171, 40, ca 1, fb_11), (ye_11, 172, 40, ca 1, fe_11)] [(jFl, jLs dC dI ca G_69 3 none), ([(2, 0), (2, 1)], jOl (dC, dI) G0 2 [bo, ou] s.heap), (jFy, jYb dC dI G_69), (jFdo, jDcc dC dI ca G_69 none phn_66)] H_85 locs_85 := (((hh_84.call hb_851 hb_852 hb_853 hb_854 hS_85 rfl (L1 := [(bo, 2, 1, .int qc_69), (bo, 2, 0, .ref qa_69), (ret_4, 3, 11, .null), (ret_4, 3, 4, .int ps_11), (ret_4, 3, 10, .int pk_11), (ret_4, 3, 5, .ref yb_11), (ret_4, 3, 6, .ref ye_11), (r0, 13, 4, .ref bo), (r0, 13, 3, .ref ou), (r0, 13, 7, .ref op)]) [0, 2, 3, 4, 5, 6, 7, 8, 9, 10] rfl rfl (M1 := [(yb_11, 171, 40, ca 1, fb_11), (ye_11, 172, 40, ca 1, fe_11)]) [0, 1] rfl rfl (I1 := [([(2, 0), (2, 1)], jOl (dC, dI) G0 2 [bo, ou] s.heap), (jFy, jYb dC dI G_69), (jFdo, jDcc dC dI ca G_69 none phn_66)]) [0, 1, 3] rfl rfl).more hb_855)).addIs hbE_85
        clear hh_84 ht_85 hvm_85 hz_85 hk_85 hS_85 hb_851 hb_852 hb_853 hb_854 hb_855
        clear  hbE_85
        obtain ⟨hr_86, hr_86p⟩ := hr_86
        obtain ⟨ret_87, rfl, hg_ret_87⟩ := hr_86
        refine lv_pop hx hb dX11_closeDocument_40 rfl ?_
        refine lv_aload_n hx hb dX11_closeDocument_41 rfl (lv_at hl 2 rfl) ?_
        refine lv_aload_n hx hb dX11_closeDocument_42 rfl (lv_at hl 1 rfl) ?_
        refine lv_iconst (v := 0) hx hb dX11_closeDocument_43 (by decide) ?_
        have hsz_88 := hh_85.2.2.2.2.2.1
        have htt_88 := hh_85.2.2.2.2.2.2.1
        refine W.room (fun hrc_88 hrs_88 => ?_)
        refine va_callv (A0 := jA base) (H0 := s.heap) (va_runV (As := [.ref ret_4, .int 0]) (rest := []) ⟨hx, hb, hml, hown, hts⟩ (uX11_publish l dC dI ca base B hB hAp hB2 hB3 hB4 hB11 hB13 hB101 hB171 hB172 hB196 hB210 G_69 H_85 r0 ret_4 0 bo qc_69 qa_69 m_qa_69 ou LC LS) (cwV 2 hts (jgV (jWr_39 _ (List.mem_of_getElem? (i := 19) rfl)) (jWr_39 _ (List.mem_of_getElem? (i := 20) rfl)) (jWr_39 _ (List.mem_of_getElem? (i := 21) rfl)) (jWr_1 _ (List.mem_of_getElem? (i := 2) rfl)) (jWr_39 _ (List.mem_of_getElem? (i := 22) rfl))) rfl rfl rfl (by decide +kernel) ⟨by rw [← hR]; exact Nat.le_of_ble_eq_true rfl, by rw [← hR]; exact Nat.le_of_ble_eq_true rfl⟩) ⟨fun a U g mk q => by obtain ⟨q0, q1, q2, qK, q10, q11, q12, q13, q14, q15, q16, q17, q18, q19⟩ := q; exact ⟨q0, q1, q2, jG.calling g mk a qK, (va_K.moved (Vm.Alike.refl U.vm) q10), q11, q12, q13, q14, q15, q16, q17, q18, q19⟩, hh_85.recv (C := RX11) (T := TX11) (N := 19) hB13 rfl (by decide) hg_72 hK, fun U hU hW => ⟨rfl, hU, hh_85.2.1, hG.step hW hU hh_85.1, va_K.moved hW.alike hK2, hg_71, hg_72, (Or.inl rfl), hg_75, hgq_69_0, hg_76, (hh_85.2.2.1.sub (L1 := [(r0, 13, 4, .ref bo), (bo, 2, 1, .int qc_69), (bo, 2, 0, .ref qa_69), (r0, 13, 3, .ref ou)]) [8, 1, 2, 9] rfl), (hh_85.2.2.2.2.2.2.2.2.sub (L1 := [(jFy, jYb dC dI G_69)]) [2] rfl), (by omega), (by omega), ⟨(by first | omega | rfl | assumption | fail), (by first | omega | rfl | assumption | fail), (by first | omega | rfl | assumption | fail), (by first | omega | rfl | assumption | fail), (by first | assumption | fail | omega)⟩⟩⟩ rfl rfl hl.1 rfl (lv_room (Nat.le_of_ble_eq_true rfl)) dX11_closeDocument_44 ⟨by rw [hRc]; omega, by rw [hRs]; omega⟩) hh_85.1 (fun q _ h => h) (fun q h => h) (fun u_88 t_88 H_88 locs_88 ht_88 hvm_88 hr_89 hb_88 hz_88 hk_88 hS_88 => ?_)
        obtain ⟨qc_88, qa_88, m_qa_88, G_88⟩ := u_88
        rw [ht_88] at hb_88
        simp only at hb_88
        obtain ⟨⟨hb_881, hb_882, hb_883, hb_884, hb_885, hb_886⟩, hgq_88_0, hN_88, hbO_88, hbE_88⟩ := hb_88
        have hh_88 : jSt (dC, dI) B base G0 G_88 EX11_closeDocumentE s.heap (((m_qa_69 - n_pa) / 16) + ((m_qa_88 - m_qa_69) / 16)) ((2 * (m_qa_69 - n_pa)) + (2 * (m_qa_88 - m_qa_69))) [(bo, 2, 1, .int qc_88), (bo, 2, 0, .ref qa_88), (op, 1, 2, .int qz_85), (ret_4, 3, 11, .null), (ret_4, 3, 4, .int ps_11), (ret_4, 3, 10, .int pk_11), (ret_4, 3, 5, .ref yb_11), (ret_4, 3, 6, .ref ye_11), (r0, 13, 4, .ref bo), (r0, 13, 3, .ref ou), (r0, 13, 7, .ref op)] [(yb_11, 171, 40, ca 1, fb_11), (ye_11, 172, 40, ca 1, fe_11)] [(jFl, jLs dC dI ca G_69 3 none), (jFdo, jDcc dC dI ca G_69 none phn_66)] H_88 locs_88 := (hh_85.callG hb_881 hb_882 hb_883 hb_884 hb_885 hS_88 rfl (L1 := [(op, 1, 2, .int qz_85), (ret_4, 3, 11, .null), (ret_4, 3, 4, .int ps_11), (ret_4, 3, 10, .int pk_11), (ret_4, 3, 5, .ref yb_11), (ret_4, 3, 6, .ref ye_11), (r0, 13, 4, .ref bo), (r0, 13, 3, .ref ou), (r0, 13, 7, .ref op)]) [0, 3, 4, 5, 6, 7, 8, 9, 10] rfl rfl (M1 := [(yb_11, 171, 40, ca 1, fb_11), (ye_11, 172, 40, ca 1, fe_11)]) [0, 1] rfl rfl (I1 := [(jFl, jLs dC dI ca G_69 3 none), (jFdo, jDcc dC dI ca G_69 none phn_66)]) [0, 3] rfl rfl).more hb_886
        have hNn_88 : (jNk [0, 1, 2, 3, 4, 5, 6, 7, 8, 9, 10, 11, 12, 13, 14, 15, 16]) G0 G_88 := (hNn_69).tr hN_88
        have hg_90 := hb_882 _ _ hg_71
        have hg_91 := hb_882 _ _ hg_72
        have hg_92 := hb_882 _ _ hg_73
        have hg_93 := hb_882 _ _ hg_74
        have hg_94 := hb_882 _ _ hg_75
        have hg_95 := hb_882 _ _ hg_76
        have hg_96 := hb_882 _ _ hg_77
        have hd_97 := jLs.grow (hh_88.iv 0 rfl) hb_882 hN_88 (by decide)
        have hh_98 := hh_88.sub (L1 := [(bo, 2, 1, .int qc_88), (bo, 2, 0, .ref qa_88), (op, 1, 2, .int qz_85), (ret_4, 3, 11, .null), (ret_4, 3, 4, .int ps_11), (ret_4, 3, 10, .int pk_11), (ret_4, 3, 5, .ref yb_11), (ret_4, 3, 6, .ref ye_11), (r0, 13, 4, .ref bo), (r0, 13, 3, .ref ou), (r0, 13, 7, .ref op)]) [0, 1, 2, 3, 4, 5, 6, 7, 8, 9, 10] rfl (M1 := [(yb_11, 171, 40, ca 1, fb_11), (ye_11, 172, 40, ca 1, fe_11)]) [0, 1] rfl (I1 := [(jFdo, jDcc dC dI ca G_69 none phn_66)]) [1] rfl
        clear hh_88
        have hh_99 := hh_98.addI (jLs.ie hd_97)
        clear hh_98
        have hd_100 := jDcc.grow (hh_99.iv 1 rfl) hb_882 hN_88 (by decide)
        have hh_101 := hh_99.sub (L1 := [(bo, 2, 1, .int qc_88), (bo, 2, 0, .ref qa_88), (op, 1, 2, .int qz_85), (ret_4, 3, 11, .null), (ret_4, 3, 4, .int ps_11), (ret_4, 3, 10, .int pk_11), (ret_4, 3, 5, .ref yb_11), (ret_4, 3, 6, .ref ye_11), (r0, 13, 4, .ref bo), (r0, 13, 3, .ref ou), (r0, 13, 7, .ref op)]) [0, 1, 2, 3, 4, 5, 6, 7, 8, 9, 10] rfl (M1 := [(yb_11, 171, 40, ca 1, fb_11), (ye_11, 172, 40, ca 1, fe_11)]) [0, 1] rfl (I1 := [(jFl, jLs dC dI ca G_88 3 none)]) [0] rfl
        clear hh_99
        have hh_102 := hh_101.addI (jDcc.ie hd_100)
        clear hh_101
        have hh_103 := hh_102.addIs hbE_88
        have hd_104 := jOl.trL (hh_85.iv 1 rfl) hh_85.2.2.2.2.1 hbO_88 (by simp)
        have hh_105 := hh_103.addI (jOl.ie (dC := dC) (dI := dI) (G0 := G0) (k := 2) (rs := [bo, ou]) (H0 := s.heap) (F := [(2, 0), (2, 1)]) (C := RX0) (T := TX0) (N := 2) rfl (by decide) hh_103.2.2.2.2.1 (hd_104))
        clear hh_103
        try simp only at hr_89
        obtain ⟨hr_89_0, hr_89_1, hr_89_2, hr_89_3, hr_89_4⟩ := hr_89
        have hh_106 := hh_105.wk (zc1 := (m_qa_88 - n_pa) / 16) (zs1 := 2 * (m_qa_88 - n_pa)) (by omega) (by omega)
        clear hh_105
        try clear hsz_88 htt_88 hrc_88 hrs_88
        try clear hb_884 hb_885
        have hsz_107 := hh_106.2.2.2.2.2.1
        have htt_107 := hh_106.2.2.2.2.2.2.1
        refine W.room (fun hrc_107 hrs_107 => ?_)
        refine W.widen (k := LC - s.heap.size) (n := LS - jTot s.heap) (by omega) (by omega) ?_
        rw [hQ]
        exact W.vret hx hb hr (fun t ht hW => ⟨⟨(qc_88, qa_88, m_qa_88, phn_66, G_88), rfl, by (try dsimp only); exact ⟨(by first | omega | rfl | assumption | fail), (by first | omega | rfl | assumption | fail), (by first | omega | rfl | assumption | fail), (by first | omega | rfl | assumption | fail), (by first | assumption | fail | omega), (by first | omega | rfl | assumption | fail)⟩, ⟨hh_106.ra (by first | omega | (simp only; omega)) (by first | omega | (simp only; omega)) (M1 := [(bo, 2, 1, .int qc_88), (bo, 2, 0, .ref qa_88)]) [0, 1] rfl ht, hgq_88_0, hNn_88, by rw [ht]; exact hh_106.iv 0 rfl, by rw [ht]; exact hh_106.2.2.2.2.2.2.2.2.sub (L1 := [(jFy, jYb dC dI G_88), (jFl, jLs dC dI ca G_88 3 none), (jFdo, jDcc dC dI ca G_88 none phn_66)]) [1, 3, 2] rfl⟩⟩, by rw [ht]; try exact hh_106.1.1, fun q h9 hq => by rw [ht]; try exact hh_106.1.2.1 q h9 hq⟩) hh_106.1.2.2 dX11_closeDocument_47
    · skip
      have c_10' : r_9.toInt < 0 := jb_ge_n (rfl) ((by decide)) c_10
      first | (have hr_9_1q := hr_9_1.resolve_left (by omega); clear hr_9_1) | (have hr_9_1q := hr_9_1.resolve_right (by omega); clear hr_9_1) | skip
      have hsz_108 := hh_8.2.2.2.2.2.1
      have htt_108 := hh_8.2.2.2.2.2.2.1
      refine W.room (fun hrc_108 hrs_108 => ?_)
      refine W.widen (k := LC - s.heap.size) (n := LS - jTot s.heap) (by omega) (by omega) ?_
      rw [hQ]
      exact W.vret hx hb hr (fun t ht hW => ⟨⟨(pc, pa, n_pa, ph, G0), rfl, by (try dsimp only); exact ⟨(by first | omega | rfl | assumption | fail), (by first | omega | rfl | assumption | fail), (by first | omega | rfl | assumption | fail), (by first | omega | rfl | assumption | fail), (by first | assumption | fail | omega), (by first | omega | rfl | assumption | fail)⟩, ⟨hh_8.ra (by first | omega | (simp only; omega)) (by first | omega | (simp only; omega)) (M1 := [(bo, 2, 1, .int pc), (bo, 2, 0, .ref pa)]) [1, 2] rfl ht, hg_pa, jNk.rf, by rw [ht]; exact hh_8.iv 1 rfl, by rw [ht]; exact hh_8.2.2.2.2.2.2.2.2.sub (L1 := [(jFy, jYb dC dI G0), (jFl, jLs dC dI ca G0 3 none), (jFdo, jDcc dC dI ca G0 none ph)]) [2, 0, 3] rfl⟩⟩, by rw [ht]; try exact hh_8.1.1, fun q h9 hq => by rw [ht]; try exact hh_8.1.2.1 q h9 hq⟩) hh_8.1.2.2 dX11_closeDocument_19
end
section
-- how long a message is at least that opens or changes a document
theorem jMh.mg {fk fi fz fa fs : Nat → Int32} {pv pu n z m : Int} (h : jMh (fk, fi, fz, fa, fs) pv pu n) (h0 : 0 ≤ m) (h1 : m < pv) (h2 : jSo fs m = 6) (h3 : jSo fk m = 3) (h4 : jSo fz m = z) : jMg (fk, fi, fz, fa, fs) pv pu n z := ⟨h.1, h.2, m, h0, h1, h2, h3, h4⟩
theorem jMg.two {D : jC} {pv pu n z : Int} (h : jMg D pv pu n z) : 25 + z ≤ n := by
  obtain ⟨⟨C, h1⟩, ⟨h2, j, j0, j1, j2, j3, j4⟩, m, m0, m1, m2, m3, m4⟩ := h
  have hj : jNde D pv j 3 7 := ⟨j0, j1, j3, j2⟩
  have hm : jNde D pv m 3 6 := ⟨m0, m1, m3, m2⟩
  have nil : ∀ a ∈ ([] : List Int), False := fun a ha => by cases ha
  have b := jByt h1 h2 [j, m] (List.pairwise_cons.mpr ⟨List.forall_mem_cons.mpr ⟨hj.ne hm (by omega), fun a ha => (nil a ha).elim⟩, List.pairwise_cons.mpr ⟨fun a ha => (nil a ha).elim, List.Pairwise.nil⟩⟩) (List.forall_mem_cons.mpr ⟨hj.r (by omega), List.forall_mem_cons.mpr ⟨hm.r (by omega), fun a ha => (nil a ha).elim⟩⟩)
  rw [hj.s, hm.s, show jWs D [] = 0 from rfl, j4, m4, show (([j, m].length : Nat) : Int) = 2 from rfl] at b
  omega
end
