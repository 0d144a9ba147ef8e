section
theorem dX4_unitsOf_0 : decode cX4_unitsOf 0 = .ok (.aload_n 0, 1) := by decide +kernel
theorem dX4_unitsOf_1 : decode cX4_unitsOf 1 = .ok (.iload_n 1, 1) := by decide +kernel
theorem dX4_unitsOf_2 : decode cX4_unitsOf 2 = .ok (.invokevirtual 63, 3) := by decide +kernel
theorem dX4_unitsOf_5 : decode cX4_unitsOf 5 = .ok (.iconst 3, 1) := by decide +kernel
theorem dX4_unitsOf_6 : decode cX4_unitsOf 6 = .ok (.if_icmp .ne 16, 3) := by decide +kernel
theorem dX4_unitsOf_9 : decode cX4_unitsOf 9 = .ok (.aload_n 0, 1) := by decide +kernel
theorem dX4_unitsOf_10 : decode cX4_unitsOf 10 = .ok (.getfield 18, 3) := by decide +kernel
theorem dX4_unitsOf_13 : decode cX4_unitsOf 13 = .ok (.iload_n 1, 1) := by decide +kernel
theorem dX4_unitsOf_14 : decode cX4_unitsOf 14 = .ok (.iaload, 1) := by decide +kernel
theorem dX4_unitsOf_15 : decode cX4_unitsOf 15 = .ok (.iconst 0, 1) := by decide +kernel
theorem dX4_unitsOf_16 : decode cX4_unitsOf 16 = .ok (.invokestatic 86, 3) := by decide +kernel
theorem dX4_unitsOf_19 : decode cX4_unitsOf 19 = .ok (.goto 4, 3) := by decide +kernel
theorem dX4_unitsOf_22 : decode cX4_unitsOf 22 = .ok (.iconst 0, 1) := by decide +kernel
theorem dX4_unitsOf_23 : decode cX4_unitsOf 23 = .ok (.newarray .int, 2) := by decide +kernel
theorem dX4_unitsOf_25 : decode cX4_unitsOf 25 = .ok (.astore_n 2, 1) := by decide +kernel
theorem dX4_unitsOf_26 : decode cX4_unitsOf 26 = .ok (.iconst 0, 1) := by decide +kernel
theorem dX4_unitsOf_27 : decode cX4_unitsOf 27 = .ok (.istore_n 3, 1) := by decide +kernel
theorem dX4_unitsOf_28 : decode cX4_unitsOf 28 = .ok (.iload_n 3, 1) := by decide +kernel
theorem dX4_unitsOf_29 : decode cX4_unitsOf 29 = .ok (.aload_n 2, 1) := by decide +kernel
theorem dX4_unitsOf_30 : decode cX4_unitsOf 30 = .ok (.arraylength, 1) := by decide +kernel
theorem dX4_unitsOf_31 : decode cX4_unitsOf 31 = .ok (.if_icmp .ge 18, 3) := by decide +kernel
theorem dX4_unitsOf_34 : decode cX4_unitsOf 34 = .ok (.aload_n 2, 1) := by decide +kernel
theorem dX4_unitsOf_35 : decode cX4_unitsOf 35 = .ok (.iload_n 3, 1) := by decide +kernel
theorem dX4_unitsOf_36 : decode cX4_unitsOf 36 = .ok (.aload_n 0, 1) := by decide +kernel
theorem dX4_unitsOf_37 : decode cX4_unitsOf 37 = .ok (.iload_n 1, 1) := by decide +kernel
theorem dX4_unitsOf_38 : decode cX4_unitsOf 38 = .ok (.iload_n 3, 1) := by decide +kernel
theorem dX4_unitsOf_39 : decode cX4_unitsOf 39 = .ok (.invokevirtual 80, 3) := by decide +kernel
theorem dX4_unitsOf_42 : decode cX4_unitsOf 42 = .ok (.iastore, 1) := by decide +kernel
theorem dX4_unitsOf_43 : decode cX4_unitsOf 43 = .ok (.iinc 3 1, 3) := by decide +kernel
theorem dX4_unitsOf_46 : decode cX4_unitsOf 46 = .ok (.goto (-18), 3) := by decide +kernel
theorem dX4_unitsOf_49 : decode cX4_unitsOf 49 = .ok (.aload_n 2, 1) := by decide +kernel
theorem dX4_unitsOf_50 : decode cX4_unitsOf 50 = .ok (.areturn, 1) := by decide +kernel
end
section
theorem dX1_init_0 : decode cX1_init 0 = .ok (.aload_n 0, 1) := by decide +kernel
theorem dX1_init_1 : decode cX1_init 1 = .ok (.invokespecial 3, 3) := by decide +kernel
theorem dX1_init_4 : decode cX1_init 4 = .ok (.aload_n 0, 1) := by decide +kernel
theorem dX1_init_5 : decode cX1_init 5 = .ok (.iconst 0, 1) := by decide +kernel
theorem dX1_init_6 : decode cX1_init 6 = .ok (.newarray .int, 2) := by decide +kernel
theorem dX1_init_8 : decode cX1_init 8 = .ok (.putfield 9, 3) := by decide +kernel
theorem dX1_init_11 : decode cX1_init 11 = .ok (.aload_n 0, 1) := by decide +kernel
theorem dX1_init_12 : decode cX1_init 12 = .ok (.sipush 1500, 3) := by decide +kernel
theorem dX1_init_15 : decode cX1_init 15 = .ok (.newarray .int, 2) := by decide +kernel
theorem dX1_init_17 : decode cX1_init 17 = .ok (.putfield 15, 3) := by decide +kernel
theorem dX1_init_20 : decode cX1_init 20 = .ok (.aload_n 0, 1) := by decide +kernel
theorem dX1_init_21 : decode cX1_init 21 = .ok (.bipush 40, 2) := by decide +kernel
theorem dX1_init_23 : decode cX1_init 23 = .ok (.newarray .int, 2) := by decide +kernel
theorem dX1_init_25 : decode cX1_init 25 = .ok (.putfield 18, 3) := by decide +kernel
theorem dX1_init_28 : decode cX1_init 28 = .ok (.aload_n 0, 1) := by decide +kernel
theorem dX1_init_29 : decode cX1_init 29 = .ok (.bipush 40, 2) := by decide +kernel
theorem dX1_init_31 : decode cX1_init 31 = .ok (.newarray .int, 2) := by decide +kernel
theorem dX1_init_33 : decode cX1_init 33 = .ok (.putfield 21, 3) := by decide +kernel
theorem dX1_init_36 : decode cX1_init 36 = .ok (.aload_n 0, 1) := by decide +kernel
theorem dX1_init_37 : decode cX1_init 37 = .ok (.bipush 40, 2) := by decide +kernel
theorem dX1_init_39 : decode cX1_init 39 = .ok (.newarray .int, 2) := by decide +kernel
theorem dX1_init_41 : decode cX1_init 41 = .ok (.putfield 24, 3) := by decide +kernel
theorem dX1_init_44 : decode cX1_init 44 = .ok (.aload_n 0, 1) := by decide +kernel
theorem dX1_init_45 : decode cX1_init 45 = .ok (.bipush 40, 2) := by decide +kernel
theorem dX1_init_47 : decode cX1_init 47 = .ok (.newarray .int, 2) := by decide +kernel
theorem dX1_init_49 : decode cX1_init 49 = .ok (.putfield 27, 3) := by decide +kernel
theorem dX1_init_52 : decode cX1_init 52 = .ok (.aload_n 0, 1) := by decide +kernel
theorem dX1_init_53 : decode cX1_init 53 = .ok (.bipush 40, 2) := by decide +kernel
theorem dX1_init_55 : decode cX1_init 55 = .ok (.anewarray 30, 3) := by decide +kernel
theorem dX1_init_58 : decode cX1_init 58 = .ok (.putfield 32, 3) := by decide +kernel
theorem dX1_init_61 : decode cX1_init 61 = .ok (.return_, 1) := by decide +kernel
end
section
def EJ7_copyOf_6403cL1 : List (Nat × Nat) := []
def EJ7_copyOf_1904cL1 : List (Nat × Nat) := []
def EJx4a65c_grow_92f84E1 : List (Nat × Nat) := [(1, 1)]
def EJx4a65c_grow_92f84L1 : List (Nat × Nat) := [(1, 1)]
def EJx4a65c_grow_d5877E1 : List (Nat × Nat) := [(1, 1)]
def EJx4a65c_grow_d5877L1 : List (Nat × Nat) := [(1, 1)]
def EJx4a65c_add_72be8E1 : List (Nat × Nat) := [(1, 1), (1, 2), (221, 0)]
def EJx4a65c_add_72be8L1 : List (Nat × Nat) := [(1, 1), (1, 2), (221, 0)]
def EJx4a65c_add_9ea2dL1 : List (Nat × Nat) := [(1, 0), (1, 1), (1, 2), (221, 0)]
set_option maxHeartbeats 4000000 in
set_option maxRecDepth 20000 in
theorem uJ7_copyOf_6403cL1 (l : Launch) (dC : Nat → ClassId) (dI : Nat → Nat → Nat) (ca : Nat → ClassId) (base : Nat) (B : jF) (hB : jBok B) (hAp : jAp (dC, dI)) (hB3 : ∀ n G a H, B 3 n G a H ↔ jOb (dC, dI) 3 17 (F3 n G) a H) (hB221 : ∀ n G a H, B 221 n G a H ↔ jAq (dC, dI) (ca 9) (jQn 3 0) n G a H) (G0 : jT) (H0 : Heap) (r0 : Nat) (a1 : Int32) (n0 : Nat) (fq : Nat → Option Nat) (LC LS : Nat) : Met l yJ7_copyOf_6403c (jw yJ7_copyOf_6403c cJ7_copyOf_6403c 4 (some (.array (.object "java/lang/Object")))) ({ frames := 1, cells := LC - H0.size, slots := LS - jTot H0, locals := 61 }) (va_Pc [.ref r0, .int a1, .ref (dI 99 1)] (fun U => U.heap = H0 ∧ jX B base G0 [] H0 ∧ jG dC dI ca base U ∧ jK7 dC dI ca base U ∧ G0 r0 = some (221, n0) ∧ jP (dC, dI) G0 H0 [] ∧ jIs (dC, dI) G0 H0 [([(221, 0)], jQc dC dI (ca 9) r0 n0 fq)] ∧ H0.size + 1 ≤ LC ∧ jTot H0 + a1.toInt.toNat ≤ LS ∧ n0 ≤ 40 ∧ n0 ≤ a1.toInt ∧ a1.toInt ≤ 40)) (jQx (S := Nat × Nat × jT) (fun v u => v = .ref u.1 ∧ jRf u.2.2 221 u.2.1 v ∧ jNwv v H0 ∧ u.2.1 = a1.toInt) (fun u t => jRa (dC, dI) B base G0 u.2.2 EJ7_copyOf_6403cL1 H0 (1) (u.2.1) [] t.heap ∧ (jNk [0, 1, 2, 3, 4, 5, 6, 7, 8, 9, 10, 11, 12, 13, 14, 15, 16, 17, 175]) G0 u.2.2 ∧ (∃ f : Nat → Option Nat, jQc dC dI (ca 9) u.1 u.2.1 f t.heap ∧ (∀ j, j < n0 → f j = fq j)) ∧ jKe G0 u.2.2 H0 t.heap) (jA base)) (LC - H0.size) (LS - jTot H0) (jA base) := by
  refine Met.ofW (cc := cJ7_copyOf_6403c) (maxL := 4) (ret := (some (.array (.object "java/lang/Object")))) (by decide) rfl ?_
  intro p e s m args below meth c s₁ Bd hml hv
  obtain ⟨rfl, hH0, hX, hG, hK7, hg_r0, hP0, hI0, hLC0, hLS0, hp0, hp1, hp2⟩ := hv
  have hK := hG.1
  have hx := Bd.exec
  have hb := Bd.bytes
  have hr := Bd.returns
  have hts := atoms_spec (ws := (jw yJ7_copyOf_6403c cJ7_copyOf_6403c 4 (some (.array (.object "java/lang/Object"))))) Bd.pre
  have htw : ∀ w ∈ jWl, w.before _ s = true := fun w h => hts w (List.mem_cons_of_mem _ h)
  have hown : s.vm.findClass RJ7 = some m.cls := findClass_of_methodNamed Bd.named
  have hlocks := Bd.notSynchronized
  obtain ⟨Q, hQ⟩ : ∃ Q, Q = MQ below (jQx (S := Nat × Nat × jT) (fun v u => v = .ref u.1 ∧ jRf u.2.2 221 u.2.1 v ∧ jNwv v H0 ∧ u.2.1 = a1.toInt) (fun u t => jRa (dC, dI) B base G0 u.2.2 EJ7_copyOf_6403cL1 H0 (1) (u.2.1) [] t.heap ∧ (jNk [0, 1, 2, 3, 4, 5, 6, 7, 8, 9, 10, 11, 12, 13, 14, 15, 16, 17, 175]) G0 u.2.2 ∧ (∃ f : Nat → Option Nat, jQc dC dI (ca 9) u.1 u.2.1 f t.heap ∧ (∀ j, j < n0 → f j = fq j)) ∧ jKe G0 u.2.2 H0 t.heap) (jA base)) ([.ref r0, .int a1, .ref (dI 99 1)] : List Value).toArray s (LC - H0.size) (LS - jTot H0) (jA base) := ⟨_, rfl⟩
  rw [← hQ]
  have hl := lv_entry ([.ref r0, .int a1, .ref (dI 99 1)]) (n := 4) (Nat.le_of_ble_eq_true rfl)
  rw [lg_entry_eq]
  generalize (lg_sl ([.ref r0, .int a1, .ref (dI 99 1)]) ++ List.replicate (4 - (lg_sl ([.ref r0, .int a1, .ref (dI 99 1)])).length) Slot.unset).toArray = ls at hl ⊢
  have hl : lv_has ls 4 [(0, .ref r0), (1, .int a1), (2, .ref (dI 99 1))] := hl
  generalize hR : (headSpec (jw yJ7_copyOf_6403c cJ7_copyOf_6403c 4 (some (.array (.object "java/lang/Object")))) ({ frames := 1, cells := LC - H0.size, slots := LS - jTot H0, locals := 61 })).room = R
  subst hH0
  have hh : jSt (dC, dI) B base G0 G0 EJ7_copyOf_6403cL1 s.heap 0 0 [] [] [([(221, 0)], jQc dC dI (ca 9) r0 n0 fq)] s.heap [] := jSt.start hX hP0 jMc.nil hI0
  clear hX hP0
  have hk0 : (0 : Int32).toInt = 0 := by decide
  have hk1 : (1 : Int32).toInt = 1 := by decide
  have hrg_a1 := jb_rng a1
  have hbs : base ≤ s.heap.size := Nat.le_of_lt (Nat.lt_of_le_of_lt (hh.ab hg_r0).1 (hh.ab hg_r0).2)
  have hRc : R.cells = LC - s.heap.size := by rw [← hR]; rfl
  have hRs : R.slots = LS - jTot s.heap := by rw [← hR]; rfl
  have hkp : jKe G0 G0 s.heap s.heap := jKe.rf
  refine lv_aload_n hx hb dJ7_copyOf_6403c_0 rfl (lv_at hl 2 rfl) ?_
  refine va_ldcM hx hb hown (htw (.classLink RJ7 110 "[Ljava/lang/Object;") (jWr_34 _ (List.mem_of_getElem? (i := 22) rfl))) hK7.2.2.2.1 dJ7_copyOf_6403c_1 ?_
  refine lv_acmp_ne (rx := (some (dI 99 1))) (ry := (some (dI 99 1))) (tgt := 13) hx hb dJ7_copyOf_6403c_3 (by decide) (fun c_1 => ?_) (fun c_1 => ?_)
  · skip
    exact absurd rfl c_1
  · skip
    refine lv_iload_n hx hb dJ7_copyOf_6403c_6 rfl (lv_at hl 1 rfl) ?_
    have hsz_2 := hh.2.2.2.2.2.1
    have htt_2 := hh.2.2.2.2.2.2.1
    have hsy_2 : s.heap.size ≤ s.heap.size := hh.1.1
    refine j7_newqR hx hb hown (htw (.classLink RJ7 2 "java/lang/Object") (jWr_34 _ (List.mem_of_getElem? (i := 23) rfl))) hK7.2.1 hK7.1 hh hB 0 rfl (x := a1.toInt) rfl (by omega) (by rw [hRc]; omega) (by rw [hRs]; omega) dJ7_copyOf_6403c_7 (fun H_2 hfr_2 hnr_2 hraw_2 hh_2 => ?_)
    have hke_2 : jKe G0 G0 s.heap H_2 := jKe.raw hfr_2
    have hbr_2 : base ≤ s.heap.size := Nat.le_trans hbs hsy_2
    obtain ⟨nq_2, hnq_2⟩ : ∃ q : Nat, q = (a1.toInt).toNat := ⟨_, rfl⟩
    rw [← hnq_2] at hraw_2 hh_2 ⊢
    clear hh
    have hkp_3 := hkp.tr hke_2
    refine lv_goto (tgt := 24) hx hb dJ7_copyOf_6403c_10 (by decide) ?_
    refine lv_astore_n (lv' := [(3, .ref s.heap.size), (0, .ref r0), (1, .int a1), (2, .ref (dI 99 1))]) hx hb dJ7_copyOf_6403c_24 rfl hl (by decide) rfl (fun ls hl => ?_)
    refine lv_aload_n hx hb dJ7_copyOf_6403c_25 rfl (lv_at hl 1 rfl) ?_
    refine lv_iconst (v := 0) hx hb dJ7_copyOf_6403c_26 (by decide) ?_
    refine lv_aload_n hx hb dJ7_copyOf_6403c_27 rfl (lv_at hl 0 rfl) ?_
    refine lv_iconst (v := 0) hx hb dJ7_copyOf_6403c_28 (by decide) ?_
    refine lv_aload_n hx hb dJ7_copyOf_6403c_29 rfl (lv_at hl 1 rfl) ?_
    refine j7_qlen hx hb hK7.1 hh_2 hB221 0 rfl (by decide) hg_r0 (by omega) dJ7_copyOf_6403c_30 (fun z_4 hz_4 => ?_)
    refine lv_iload_n hx hb dJ7_copyOf_6403c_31 rfl (lv_at hl 2 rfl) ?_
    have hsz_5 := hh_2.2.2.2.2.2.1
    have htt_5 := hh_2.2.2.2.2.2.2.1
    refine W.room (fun hrc_5 hrs_5 => ?_)
    refine va_mmin hx hb (by rw [hml]; exact hl.1.symm) hown (htw (.methodLink RJ7 304 Lib.Math.min.name) (jWr_16 _ (List.mem_of_getElem? (i := 15) rfl))) (htw (.static Lib.Math.min.name) (jWr_16 _ (List.mem_of_getElem? (i := 16) rfl))) (htw (.initialized "java/lang/Math") (jWr_3 _ (List.mem_of_getElem? (i := 7) rfl))) (htw (.code Lib.Math.min.name Lib.Math.min.code 2 (some .int)) (jWr_16 _ (List.mem_of_getElem? (i := 17) rfl))) (by rw [← hR]; exact Nat.le_of_ble_eq_true rfl) (by rw [← hR]; exact Nat.le_of_ble_eq_true rfl) (by rw [hRc]; omega) (by rw [hRs]; omega) dJ7_copyOf_6403c_32 ?_
    refine lv_topi (fun z_6 ez_6 => ?_)
    have hz_6 := jb_min ez_6
    refine j7_qcopyR hx hb (by rw [hml]; exact hl.1.symm) hown (htw (.methodLink RJ7 150 arraycopyName) (jWr_16 _ (List.mem_of_getElem? (i := 18) rfl))) (htw (.native arraycopyName) (jWr_16 _ (List.mem_of_getElem? (i := 19) rfl))) (htw (.static arraycopyName) (jWr_16 _ (List.mem_of_getElem? (i := 20) rfl))) (htw (.initialized "java/lang/System") (jWr_16 _ (List.mem_of_getElem? (i := 21) rfl))) hK hK7.1 hh_2 hB hB221 0 rfl (by decide) hg_r0 (hh_2.iv 0 rfl) hraw_2 hnr_2 hbr_2 hB3 (T := TX1) (N := 17) rfl (by decide) hK7.2.2.1.1.1 (x := 0) (y := 0) (z := z_6.toInt) (by decide) (by decide) rfl (by omega) (by rw [← hR]; exact Nat.le_of_ble_eq_true rfl) (by rw [← hR]; exact Nat.le_of_ble_eq_true rfl) dJ7_copyOf_6403c_35 (fun H_7 locs_7 gq_7 hc_7 hp_7 hraw_7 hr_7 hh_7 => ?_)
    have hkp_8 := hkp_3.st hsy_2 hr_7
    clear hr_7
    clear hh_2
    refine lv_aload_n hx hb dJ7_copyOf_6403c_38 rfl (lv_at hl 0 rfl) ?_
    have hsz_9 := hh_7.2.2.2.2.2.1
    have htt_9 := hh_7.2.2.2.2.2.2.1
    refine W.room (fun hrc_9 hrs_9 => ?_)
    refine W.widen (k := LC - s.heap.size) (n := LS - jTot s.heap) (by omega) (by omega) ?_
    rw [hQ]
    have hle_10 : jLe G0 (va_up G0 s.heap.size (some (221, nq_2))) := jLe.typ hnr_2
    have hh_10 := hh_7.typ (k := 221) (n := nq_2) hB hnr_2 hbr_2 hraw_7.lt (jAq.of hB221 hraw_7 (fun j hj => ((hp_7 (fun _ _ => Or.inl rfl)) j hj).up hle_10))
    have hgn_10 : (va_up G0 s.heap.size (some (221, nq_2))) s.heap.size = some (221, nq_2) := jUp_self
    have hN_10 : (jNk [0, 1, 2, 3, 4, 5, 6, 7, 8, 9, 10, 11, 12, 13, 14, 15, 16, 17, 175]) G0 (va_up G0 s.heap.size (some (221, nq_2))) := jNk.new (by decide)
    have hNn_10 : (jNk [0, 1, 2, 3, 4, 5, 6, 7, 8, 9, 10, 11, 12, 13, 14, 15, 16, 17, 175]) G0 (va_up G0 s.heap.size (some (221, nq_2))) := (jNk.rf).tr hN_10
    have hkp_11 := hkp_8.typn (t := some (221, nq_2)) hsy_2
    have hh_12 := hh_10.addI (jQc.ie hraw_7 hgn_10 (by decide) (by decide))
    clear hh_10
    exact W.aret (v := .ref s.heap.size) hx hb hr (Or.inr ⟨_, rfl⟩) (Or.inr ⟨_, rfl⟩) (fun t ht hW => ⟨⟨.ref s.heap.size, (s.heap.size, nq_2, (va_up G0 s.heap.size (some (221, nq_2)))), rfl, ⟨rfl, ⟨_, rfl, hgn_10⟩, ⟨_, rfl, hsy_2⟩, by (try dsimp only); first | omega | rfl | assumption | fail⟩, ⟨hh_12.ra (by first | omega | (simp only; omega)) (by first | omega | (simp only; omega)) (M1 := []) [] rfl ht, hNn_10, ⟨_, by rw [ht]; exact hh_12.iv 0 rfl, jQz hc_7 (by omega) (by omega) (by omega) (by omega)⟩, by rw [ht]; exact hkp_11⟩⟩, by rw [ht]; try exact hh_12.1.1, fun q h9 hq => by rw [ht]; try exact hh_12.1.2.1 q h9 hq⟩) hh_12.1.2.2 dJ7_copyOf_6403c_39
set_option maxHeartbeats 4000000 in
set_option maxRecDepth 20000 in
theorem uJ7_copyOf_1904cL1 (l : Launch) (dC : Nat → ClassId) (dI : Nat → Nat → Nat) (ca : Nat → ClassId) (base : Nat) (B : jF) (hB : jBok B) (hAp : jAp (dC, dI)) (hB3 : ∀ n G a H, B 3 n G a H ↔ jOb (dC, dI) 3 17 (F3 n G) a H) (hB221 : ∀ n G a H, B 221 n G a H ↔ jAq (dC, dI) (ca 9) (jQn 3 0) n G a H) (G0 : jT) (H0 : Heap) (r0 : Nat) (a1 : Int32) (n0 : Nat) (fq : Nat → Option Nat) (LC LS : Nat) : Met l yJ7_copyOf_1904c (jw yJ7_copyOf_1904c cJ7_copyOf_1904c 2 (some (.array (.object "java/lang/Object")))) ({ frames := 2, cells := LC - H0.size, slots := LS - jTot H0, locals := 84 }) (va_Pc [.ref r0, .int a1] (fun U => U.heap = H0 ∧ jX B base G0 [] H0 ∧ jG dC dI ca base U ∧ jK7 dC dI ca base U ∧ G0 r0 = some (221, n0) ∧ jP (dC, dI) G0 H0 [] ∧ jIs (dC, dI) G0 H0 [([(221, 0)], jQc dC dI (ca 9) r0 n0 fq)] ∧ H0.size + 1 ≤ LC ∧ jTot H0 + a1.toInt.toNat ≤ LS ∧ n0 ≤ 40 ∧ n0 ≤ a1.toInt ∧ a1.toInt ≤ 40)) (jQx (S := Nat × Nat × jT) (fun v u => v = .ref u.1 ∧ jRf u.2.2 221 u.2.1 v ∧ jNwv v H0 ∧ u.2.1 = a1.toInt) (fun u t => jRa (dC, dI) B base G0 u.2.2 EJ7_copyOf_1904cL1 H0 (1) (u.2.1) [] t.heap ∧ (jNk [0, 1, 2, 3, 4, 5, 6, 7, 8, 9, 10, 11, 12, 13, 14, 15, 16, 17, 175]) G0 u.2.2 ∧ (∃ f : Nat → Option Nat, jQc dC dI (ca 9) u.1 u.2.1 f t.heap ∧ (∀ j, j < n0 → f j = fq j)) ∧ jKe G0 u.2.2 H0 t.heap) (jA base)) (LC - H0.size) (LS - jTot H0) (jA base) := by
  refine Met.ofW (cc := cJ7_copyOf_1904c) (maxL := 2) (ret := (some (.array (.object "java/lang/Object")))) (by decide) rfl ?_
  intro p e s m args below meth c s₁ Bd hml hv
  obtain ⟨rfl, hH0, hX, hG, hK7, hg_r0, hP0, hI0, hLC0, hLS0, hp0, hp1, hp2⟩ := hv
  have hK := hG.1
  have hx := Bd.exec
  have hb := Bd.bytes
  have hr := Bd.returns
  have hts := atoms_spec (ws := (jw yJ7_copyOf_1904c cJ7_copyOf_1904c 2 (some (.array (.object "java/lang/Object"))))) Bd.pre
  have htw : ∀ w ∈ jWl, w.before _ s = true := fun w h => hts w (List.mem_cons_of_mem _ h)
  have hown : s.vm.findClass RJ7 = some m.cls := findClass_of_methodNamed Bd.named
  have hlocks := Bd.notSynchronized
  obtain ⟨Q, hQ⟩ : ∃ Q, Q = MQ below (jQx (S := Nat × Nat × jT) (fun v u => v = .ref u.1 ∧ jRf u.2.2 221 u.2.1 v ∧ jNwv v H0 ∧ u.2.1 = a1.toInt) (fun u t => jRa (dC, dI) B base G0 u.2.2 EJ7_copyOf_1904cL1 H0 (1) (u.2.1) [] t.heap ∧ (jNk [0, 1, 2, 3, 4, 5, 6, 7, 8, 9, 10, 11, 12, 13, 14, 15, 16, 17, 175]) G0 u.2.2 ∧ (∃ f : Nat → Option Nat, jQc dC dI (ca 9) u.1 u.2.1 f t.heap ∧ (∀ j, j < n0 → f j = fq j)) ∧ jKe G0 u.2.2 H0 t.heap) (jA base)) ([.ref r0, .int a1] : List Value).toArray s (LC - H0.size) (LS - jTot H0) (jA base) := ⟨_, rfl⟩
  rw [← hQ]
  have hl := lv_entry ([.ref r0, .int a1]) (n := 2) (Nat.le_of_ble_eq_true rfl)
  rw [lg_entry_eq]
  generalize (lg_sl ([.ref r0, .int a1]) ++ List.replicate (2 - (lg_sl ([.ref r0, .int a1])).length) Slot.unset).toArray = ls at hl ⊢
  have hl : lv_has ls 2 [(0, .ref r0), (1, .int a1)] := hl
  generalize hR : (headSpec (jw yJ7_copyOf_1904c cJ7_copyOf_1904c 2 (some (.array (.object "java/lang/Object")))) ({ frames := 2, cells := LC - H0.size, slots := LS - jTot H0, locals := 84 })).room = R
  subst hH0
  have hh : jSt (dC, dI) B base G0 G0 EJ7_copyOf_1904cL1 s.heap 0 0 [] [] [([(221, 0)], jQc dC dI (ca 9) r0 n0 fq)] s.heap [] := jSt.start hX hP0 jMc.nil hI0
  clear hX hP0
  have hk0 : (0 : Int32).toInt = 0 := by decide
  have hk1 : (1 : Int32).toInt = 1 := by decide
  have hrg_a1 := jb_rng a1
  have hbs : base ≤ s.heap.size := Nat.le_of_lt (Nat.lt_of_le_of_lt (hh.ab hg_r0).1 (hh.ab hg_r0).2)
  have hRc : R.cells = LC - s.heap.size := by rw [← hR]; rfl
  have hRs : R.slots = LS - jTot s.heap := by rw [← hR]; rfl
  have hkp : jKe G0 G0 s.heap s.heap := jKe.rf
  refine lv_aload_n hx hb dJ7_copyOf_1904c_0 rfl (lv_at hl 0 rfl) ?_
  refine lv_iload_n hx hb dJ7_copyOf_1904c_1 rfl (lv_at hl 1 rfl) ?_
  refine lv_aload_n hx hb dJ7_copyOf_1904c_2 rfl (lv_at hl 0 rfl) ?_
  refine j7_getC hx hb (by rw [hml]; exact hl.1.symm) hown (htw (.methodLink RJ7 86 ⟨"java/lang/Object", "getClass", "()Ljava/lang/Class;"⟩) (jWr_34 _ (List.mem_of_getElem? (i := 15) rfl))) (htw (.selects "[Ljava/lang/Object;" ⟨"java/lang/Object", "getClass", "()Ljava/lang/Class;"⟩ ⟨"java/lang/Object", "getClass", "()Ljava/lang/Class;"⟩) (jWr_34 _ (List.mem_of_getElem? (i := 16) rfl))) (htw (.instanceMethod ⟨"java/lang/Object", "getClass", "()Ljava/lang/Class;"⟩) (jWr_34 _ (List.mem_of_getElem? (i := 17) rfl))) (htw (.native ⟨"java/lang/Object", "getClass", "()Ljava/lang/Class;"⟩) (jWr_34 _ (List.mem_of_getElem? (i := 18) rfl))) hK7 hh hB221 (by decide) hg_r0 (by rw [← hR]; exact Nat.le_of_ble_eq_true rfl) (by rw [← hR]; exact Nat.le_of_ble_eq_true rfl) dJ7_copyOf_1904c_3 ?_
  have hsz_1 := hh.2.2.2.2.2.1
  have htt_1 := hh.2.2.2.2.2.2.1
  refine W.room (fun hrc_1 hrs_1 => ?_)
  refine j_callx (A0 := jA base) (H0 := s.heap) (va_runS (As := [.ref r0, .int a1, .ref (dI 99 1)]) (rest := []) ⟨hx, hb, hml, hown, hts⟩ (uJ7_copyOf_6403cL1 l dC dI ca base B hB hAp hB3 hB221 G0 s.heap r0 a1 n0 fq LC LS) (va_cwS 3 hts (jgS (jWr_34 _ (List.mem_of_getElem? (i := 19) rfl)) (jWr_34 _ (List.mem_of_getElem? (i := 20) rfl)) (jWr_16 _ (List.mem_of_getElem? (i := 7) rfl)) (jWr_34 _ (List.mem_of_getElem? (i := 21) rfl))) rfl rfl rfl (by decide +kernel) ⟨by rw [← hR]; exact Nat.le_of_ble_eq_true rfl, by rw [← hR]; exact Nat.le_of_ble_eq_true rfl⟩) ⟨fun a U g mk q => by obtain ⟨q0, q1, q2, qK, q10, q11, q12, q13, q14⟩ := q; exact ⟨q0, q1, q2, jG.calling g mk a qK, (jK7.calling g mk a q10), q11, q12, q13, q14⟩, fun U hU hW => ⟨rfl, hU, hh.2.1, hG.step hW hU hh.1, (hK7.step hW hU hh.1), hg_r0, jP.nil, (hh.2.2.2.2.2.2.2.2.sub (L1 := [([(221, 0)], jQc dC dI (ca 9) r0 n0 fq)]) [0] rfl), by first | omega | (refine ⟨?_, ?_, ?_⟩ <;> (first | omega | rfl | assumption | decide | exact Or.inl rfl | exact Or.inr rfl | (simp only; omega)))⟩⟩ rfl rfl hl.1 rfl (lv_room (Nat.le_of_ble_eq_true rfl)) dJ7_copyOf_1904c_6 ⟨by rw [hRc]; omega, by rw [hRs]; omega⟩) hh.1 (fun q _ h => h) (fun q h => h) (fun r_2 u_1 t_1 H_1 locs_1 ht_1 hvm_1 hr_2 hb_1 hz_1 hk_1 hS_1 => ?_)
  rw [ht_1] at hb_1
  obtain ⟨x_ret_1, m_ret_1, G_1⟩ := u_1
  simp only at hb_1
  obtain ⟨⟨hb_11, hb_12, hb_13, hb_14, hb_15, hb_16⟩, hN_1, hbQ_1, hbK_1⟩ := hb_1
  have hh_1 : jSt (dC, dI) B base G0 G_1 EJ7_copyOf_1904cL1 s.heap (0 + (1)) (0 + (m_ret_1)) [] [] [([(221, 0)], jQc dC dI (ca 9) r0 n0 fq)] H_1 locs_1 := (hh.callG hb_11 hb_12 hb_13 hb_14 hb_15 hS_1 rfl (L1 := []) [] rfl rfl (M1 := []) [] rfl rfl (I1 := [([(221, 0)], jQc dC dI (ca 9) r0 n0 fq)]) [0] rfl rfl).more hb_16
  have hNn_1 : (jNk [0, 1, 2, 3, 4, 5, 6, 7, 8, 9, 10, 11, 12, 13, 14, 15, 16, 17, 175]) G0 G_1 := (jNk.rf).tr hN_1
  have hg_3 := hb_12 _ _ hg_r0
  obtain ⟨rfl, hr_2, hr_2n, hr_2p⟩ := hr_2
  try simp only at hr_2p
  have hkp_5 := hkp.tr hbK_1
  have hgr_1 : G_1 x_ret_1 = some (221, m_ret_1) := by obtain ⟨y9, e9, h9⟩ := hr_2; cases e9; exact h9
  have hsy_1 : s.heap.size ≤ x_ret_1 := Nat.le_trans hh.1.1 hr_2n.le
  obtain ⟨fr_1, hqa_1, hqr_1⟩ := hbQ_1
  have hh_6 := hh_1.addI (jQc.ie hqa_1 hgr_1 (by decide) (by decide))
  clear hh_1
  have hsz_7 := hh_6.2.2.2.2.2.1
  have htt_7 := hh_6.2.2.2.2.2.2.1
  refine W.room (fun hrc_7 hrs_7 => ?_)
  refine W.widen (k := LC - s.heap.size) (n := LS - jTot s.heap) (by omega) (by omega) ?_
  rw [hQ]
  exact W.aret (v := .ref x_ret_1) hx hb hr (Or.inr ⟨_, rfl⟩) (Or.inr ⟨_, rfl⟩) (fun t ht hW => ⟨⟨.ref x_ret_1, (x_ret_1, m_ret_1, G_1), rfl, ⟨rfl, ⟨_, rfl, hgr_1⟩, ⟨_, rfl, hsy_1⟩, by (try dsimp only); first | omega | rfl | assumption | fail⟩, ⟨hh_6.ra (by first | omega | (simp only; omega)) (by first | omega | (simp only; omega)) (M1 := []) [] rfl ht, hNn_1, ⟨_, by rw [ht]; exact hh_6.iv 0 rfl, hqr_1⟩, by rw [ht]; exact hkp_5⟩⟩, by rw [ht]; try exact hh_6.1.1, fun q h9 hq => by rw [ht]; try exact hh_6.1.2.1 q h9 hq⟩) hh_6.1.2.2 dJ7_copyOf_1904c_9
set_option maxHeartbeats 4000000 in
set_option maxRecDepth 20000 in
theorem uJx4a65c_grow_92f84E1 (l : Launch) (dC : Nat → ClassId) (dI : Nat → Nat → Nat) (ca : Nat → ClassId) (base : Nat) (B : jF) (hB : jBok B) (hAp : jAp (dC, dI)) (hB1 : ∀ n G a H, B 1 n G a H ↔ jOb (dC, dI) 1 3 (F1 n G) a H) (hB3 : ∀ n G a H, B 3 n G a H ↔ jOb (dC, dI) 3 17 (F3 n G) a H) (hB221 : ∀ n G a H, B 221 n G a H ↔ jAq (dC, dI) (ca 9) (jQn 3 0) n G a H) (G0 : jT) (H0 : Heap) (r0 : Nat) (a1 : Int32) (lz : Int32) (wl : jWl9) (LC LS : Nat) : Met l yJx4a65c_grow_92f84 (jw yJx4a65c_grow_92f84 cJx4a65c_grow_92f84 4 (some (.array (.object "java/lang/Object")))) ({ frames := 3, cells := LC - H0.size, slots := LS - jTot H0, locals := 105 }) (va_Pc [.ref r0, .int a1] (fun U => U.heap = H0 ∧ jX B base G0 [] H0 ∧ jG dC dI ca base U ∧ jK7 dC dI ca base U ∧ G0 r0 = some (1, 1) ∧ jP (dC, dI) G0 H0 [(r0, 1, 1, .ref (dI 99 0)), (r0, 1, 2, .int lz)] ∧ jIs (dC, dI) G0 H0 [(jFl, jLs dC dI ca G0 3 none wl)] ∧ H0.size + 1 ≤ LC ∧ jTot H0 + 40 ≤ LS ∧ a1.toInt = 1 ∧ lz.toInt = 0)) (jQx (S := Nat × Nat × jT) (fun v u => v = .ref u.1 ∧ u.2.1 = 10) (fun u t => jRa (dC, dI) B base G0 u.2.2 EJx4a65c_grow_92f84E1 H0 (1) (40) [(r0, 1, 1, .ref u.1)] t.heap ∧ u.2.2 u.1 = some (221, u.2.1) ∧ (jNk [0, 1, 2, 3, 4, 5, 6, 7, 8, 9, 10, 11, 12, 13, 14, 15, 16, 17, 175]) G0 u.2.2 ∧ jIs (dC, dI) u.2.2 t.heap [(jFl, jLs dC dI ca u.2.2 3 none wl)]) (jA base)) (LC - H0.size) (LS - jTot H0) (jA base) := by
  refine Met.ofW (cc := cJx4a65c_grow_92f84) (maxL := 4) (ret := (some (.array (.object "java/lang/Object")))) (by decide) rfl ?_
  intro p e s m args below meth c s₁ Bd hml hv
  obtain ⟨rfl, hH0, hX, hG, hK7, hg_r0, hP0, hI0, hLC0, hLS0, hp0, hp1⟩ := hv
  have hK := hG.1
  have hx := Bd.exec
  have hb := Bd.bytes
  have hr := Bd.returns
  have hts := atoms_spec (ws := (jw yJx4a65c_grow_92f84 cJx4a65c_grow_92f84 4 (some (.array (.object "java/lang/Object"))))) Bd.pre
  have htw : ∀ w ∈ jWl, w.before _ s = true := fun w h => hts w (List.mem_cons_of_mem _ h)
  have hown : s.vm.findClass RJx4a65c = some m.cls := findClass_of_methodNamed Bd.named
  have hlocks := Bd.notSynchronized
  obtain ⟨Q, hQ⟩ : ∃ Q, Q = MQ below (jQx (S := Nat × Nat × jT) (fun v u => v = .ref u.1 ∧ u.2.1 = 10) (fun u t => jRa (dC, dI) B base G0 u.2.2 EJx4a65c_grow_92f84E1 H0 (1) (40) [(r0, 1, 1, .ref u.1)] t.heap ∧ u.2.2 u.1 = some (221, u.2.1) ∧ (jNk [0, 1, 2, 3, 4, 5, 6, 7, 8, 9, 10, 11, 12, 13, 14, 15, 16, 17, 175]) G0 u.2.2 ∧ jIs (dC, dI) u.2.2 t.heap [(jFl, jLs dC dI ca u.2.2 3 none wl)]) (jA base)) ([.ref r0, .int a1] : List Value).toArray s (LC - H0.size) (LS - jTot H0) (jA base) := ⟨_, rfl⟩
  rw [← hQ]
  have hl := lv_entry ([.ref r0, .int a1]) (n := 4) (Nat.le_of_ble_eq_true rfl)
  rw [lg_entry_eq]
  generalize (lg_sl ([.ref r0, .int a1]) ++ List.replicate (4 - (lg_sl ([.ref r0, .int a1])).length) Slot.unset).toArray = ls at hl ⊢
  have hl : lv_has ls 4 [(0, .ref r0), (1, .int a1)] := hl
  generalize hR : (headSpec (jw yJx4a65c_grow_92f84 cJx4a65c_grow_92f84 4 (some (.array (.object "java/lang/Object")))) ({ frames := 3, cells := LC - H0.size, slots := LS - jTot H0, locals := 105 })).room = R
  subst hH0
  have hh : jSt (dC, dI) B base G0 G0 EJx4a65c_grow_92f84E1 s.heap 0 0 [(r0, 1, 1, .ref (dI 99 0)), (r0, 1, 2, .int lz)] [] [(jFl, jLs dC dI ca G0 3 none wl)] s.heap [] := jSt.start hX hP0 jMc.nil hI0
  clear hX hP0
  have hk0 : (0 : Int32).toInt = 0 := by decide
  have hk1 : (1 : Int32).toInt = 1 := by decide
  have hk10 : (10 : Int32).toInt = 10 := by decide
  have hly_1_1 := htw (u_lay RJx4a65c TJx4a65c 1) (jWc_wsJx4a65c0 _ (u_in_lay (by decide)))
  have hlk_9 := (htw (.fieldLink RJx4a65c 9 "java/util/ArrayList" "elementData" "[Ljava/lang/Object;") (jWr_9 _ (List.mem_of_getElem? (i := 15) rfl)))
  have hrg_a1 := jb_rng a1
  have hbs : base ≤ s.heap.size := Nat.le_of_lt (Nat.lt_of_le_of_lt (hh.ab hg_r0).1 (hh.ab hg_r0).2)
  have hRc : R.cells = LC - s.heap.size := by rw [← hR]; rfl
  have hRs : R.slots = LS - jTot s.heap := by rw [← hR]; rfl
  obtain ⟨lz_1, lx_1, hl1_1, hl2_1, hl3_1, hl4_1⟩ := jLs.at (hh.iv 0 rfl) hg_r0
  obtain rfl : lz = lz_1 := Value.int.inj (jf.uniq (hh.at 1 rfl) hl1_1)
  have hl3_1 : 0 ≤ lz.toInt ∧ lz.toInt ≤ 3 := hl3_1
  obtain rfl : (dI 99 0) = lx_1 := Value.ref.inj (jf.uniq (hh.at 0 rfl) hl2_1)
  rcases hl4_1 with ⟨hl9_1, hl5_1, hl0_1, hlE_1⟩ | ⟨lm_1, lf_1, hg_lx_1, hlm_1, hl6_1, hl7_1, hl8_1, hlw_1, hlY_1⟩
  · skip
    have hd_2 := jLs.less (hh.iv 0 rfl) r0
    have hh_3 := hh.sub (L1 := [(r0, 1, 1, .ref (dI 99 0)), (r0, 1, 2, .int lz)]) [0, 1] rfl (M1 := []) [] rfl (I1 := []) [] rfl
    clear hh
    have hh_4 := hh_3.addI (jLs.ie hd_2)
    clear hh_3
    refine lv_aload_n hx hb dJx4a65c_grow_92f84_0 rfl (lv_at hl 0 rfl) ?_
    refine j7_read hx hb hown hK (C := RJx4a65c) (T := TJx4a65c) (N := 3) rfl hly_1_1 hlk_9 (hh_4.at 0 rfl) dJx4a65c_grow_92f84_1 ?_
    refine va_tlen hx hb hK7.2.2.2.2.2.2.2 hh_4.1 (v := Int32.ofNat 0) rfl dJx4a65c_grow_92f84_4 ?_
    refine lv_topi (fun z_5 ez_5 => ?_)
    have hz_5 : z_5.toInt = 0 := by rw [ez_5]; rfl
    refine lv_istore_n (lv' := [(2, .int z_5), (0, .ref r0), (1, .int a1)]) hx hb dJx4a65c_grow_92f84_5 rfl hl (by decide) rfl (fun ls hl => ?_)
    refine lv_iload_n hx hb dJx4a65c_grow_92f84_6 rfl (lv_at hl 0 rfl) ?_
    refine lv_if_gt (tgt := 20) hx hb dJx4a65c_grow_92f84_7 (by decide) (fun c_6 => ?_) (fun c_6 => ?_)
    · skip
      have c_6' : z_5.toInt > 0 := jb_gt (rfl) ((by decide)) c_6
      exact absurd c_6' (by omega)
    · skip
      have c_6' : z_5.toInt ≤ 0 := jb_gt_n (rfl) ((by decide)) c_6
      refine lv_aload_n hx hb dJx4a65c_grow_92f84_10 rfl (lv_at hl 1 rfl) ?_
      refine j7_read hx hb hown hK (C := RJx4a65c) (T := TJx4a65c) (N := 3) rfl hly_1_1 hlk_9 (hh_4.at 0 rfl) dJx4a65c_grow_92f84_11 ?_
      refine va_gets hx hb hK7.2.2.2.2.2.2.1 hh_4.1 hown (htw (.fieldLink RJx4a65c 39 "java/util/ArrayList" "DEFAULTCAPACITY_EMPTY_ELEMENTDATA" "[Ljava/lang/Object;") (jWr_9 _ (List.mem_of_getElem? (i := 14) rfl))) (fun _ h9 => h9) dJx4a65c_grow_92f84_14 ?_
      refine lv_acmp_eq (rx := (some (dI 99 0))) (ry := (some (dI 99 0))) (tgt := 45) hx hb dJx4a65c_grow_92f84_17 (by decide) (fun c_8 => ?_) (fun c_8 => ?_)
      · skip
        refine lv_aload_n hx hb dJx4a65c_grow_92f84_45 rfl (lv_at hl 1 rfl) ?_
        refine lv_bipush (v := 10) hx hb dJx4a65c_grow_92f84_46 (by decide) ?_
        refine lv_iload_n hx hb dJx4a65c_grow_92f84_48 rfl (lv_at hl 2 rfl) ?_
        have hsz_9 := hh_4.2.2.2.2.2.1
        have htt_9 := hh_4.2.2.2.2.2.2.1
        refine W.room (fun hrc_9 hrs_9 => ?_)
        refine va_mmax hx hb (by rw [hml]; exact hl.1.symm) hown (htw (.methodLink RJx4a65c 79 Lib.Math.max.name) (jWr_34 _ (List.mem_of_getElem? (i := 1) rfl))) (htw (.static Lib.Math.max.name) (jWr_3 _ (List.mem_of_getElem? (i := 6) rfl))) (htw (.initialized "java/lang/Math") (jWr_3 _ (List.mem_of_getElem? (i := 7) rfl))) (htw (.code Lib.Math.max.name Lib.Math.max.code 2 (some .int)) (jWr_3 _ (List.mem_of_getElem? (i := 8) rfl))) (by rw [← hR]; exact Nat.le_of_ble_eq_true rfl) (by rw [← hR]; exact Nat.le_of_ble_eq_true rfl) (by rw [hRc]; omega) (by rw [hRs]; omega) dJx4a65c_grow_92f84_49 ?_
        refine lv_topi (fun z_10 ez_10 => ?_)
        have hz_10 := jb_max ez_10
        have hsz_11 := hh_4.2.2.2.2.2.1
        have htt_11 := hh_4.2.2.2.2.2.2.1
        have hsy_11 : s.heap.size ≤ s.heap.size := hh_4.1.1
        refine j7_newqK hx hb hown (htw (.classLink RJx4a65c 7 "java/lang/Object") (jWr_34 _ (List.mem_of_getElem? (i := 2) rfl))) hK7.2.1 hK7.1 hh_4 hB hB221 0 rfl (by decide) hbs (x := z_10.toInt) rfl (by omega) (fun _ => Or.inl rfl) (by rw [hRc]; omega) (by rw [hRs]; omega) dJx4a65c_grow_92f84_52 (fun H_11 hfr_11 hh_11 hqn_11 => ?_)
        have hh_11 : jSt (dC, dI) B base G0 (va_up G0 s.heap.size (some (221, (z_10.toInt).toNat))) EJx4a65c_grow_92f84E1 s.heap (0 + 1) (0 + (z_10.toInt).toNat) [(r0, 1, 1, .ref (dI 99 0)), (r0, 1, 2, .int lz)] [] [(jFl, jLs dC dI ca G0 3 (some r0) wl)] H_11 [] := hh_11
        have hN_11 : (jNk [0, 1, 2, 3, 4, 5, 6, 7, 8, 9, 10, 11, 12, 13, 14, 15, 16, 17, 175]) G0 (va_up G0 s.heap.size (some (221, (z_10.toInt).toNat))) := jNk.new (by decide)
        have hgn_11 : (va_up G0 s.heap.size (some (221, (z_10.toInt).toNat))) s.heap.size = some (221, (z_10.toInt).toNat) := jUp_self
        have hle_11 : jLe G0 (va_up G0 s.heap.size (some (221, (z_10.toInt).toNat))) := jLe.new hh_4.2.1.fresh
        have hke_11 : jKe G0 (va_up G0 s.heap.size (some (221, (z_10.toInt).toNat))) s.heap H_11 := jKe.new hfr_11
        have hsy_11 : s.heap.size ≤ s.heap.size := hh_4.1.1
        generalize (va_up G0 s.heap.size (some (221, (z_10.toInt).toNat))) = G_11 at hN_11 hgn_11 hle_11 hke_11 hh_11
        generalize hnc_11 : (z_10.toInt).toNat = nc_11 at hgn_11 hh_11 ⊢
        clear hh_4
        have hNn_11 : (jNk [0, 1, 2, 3, 4, 5, 6, 7, 8, 9, 10, 11, 12, 13, 14, 15, 16, 17, 175]) G0 G_11 := (jNk.rf).tr hN_11
        have hg_12 := hle_11 _ _ hg_r0
        have hd_13 := jLs.grow (hh_11.iv 0 rfl) hle_11 hN_11 (by decide)
        have hh_14 := hh_11.sub (L1 := [(r0, 1, 1, .ref (dI 99 0)), (r0, 1, 2, .int lz)]) [0, 1] rfl (M1 := []) [] rfl (I1 := []) [] rfl
        clear hh_11
        have hh_15 := hh_14.addI (jLs.ie hd_13)
        clear hh_14
        refine lv_dup_x1 hx hb dJx4a65c_grow_92f84_55 rfl rfl ?_
        have hd_17 := hh_15.iv 0 rfl
        have hh_18 := hh_15.sub (L1 := [(r0, 1, 1, .ref (dI 99 0)), (r0, 1, 2, .int lz)]) [0, 1] rfl (M1 := []) [] rfl (I1 := []) [] rfl
        clear hh_15
        refine j7_putX hx hb hown hK hh_18 hB hAp hB1 (C := RJx4a65c) (T := TJx4a65c) (N := 3) rfl (by decide) hg_12 (i := 1) (by decide) hly_1_1 rfl hlk_9 rfl (ty := (.array (.object "java/lang/Object"))) (v := .ref s.heap.size) (by decide +kernel) rfl rfl (⟨_, rfl⟩) rfl (L1 := [(r0, 1, 2, .int lz)]) [1] rfl rfl rfl dJx4a65c_grow_92f84_56 (fun H_16 locs_16 hr_16 hh_16 => ?_)
        clear hh_18
        have hd_17n := jLs.fld hd_17 hg_12 hr_16
        have hh_19 := hh_16.addI (jLs.ie hd_17n)
        clear hh_16
        clear hd_17 hd_17n hr_16
        obtain ⟨fq_21, hfq_21a, hfq_21p⟩ := hh_19.aq hB221 (by decide) hgn_11
        have hd_20 := jLs.full (wn := wl) (hh_19.iv 0 rfl) hg_12 ⟨_, _, hh_19.at 1 rfl, hh_19.at 0 rfl, ⟨by omega, (show _ ≤ (3 : Int) by omega)⟩, Or.inr ⟨_, _, hgn_11, by omega, by omega, hfq_21a, (fun i h9 => absurd h9 (by omega)), (fun q => ⟨by have h8 := hl0_1 q; omega, fun i h9 => absurd h9 (by omega)⟩), (fun q => absurd rfl q)⟩⟩ ⟨fun q => absurd rfl q, fun _ => rfl, fun _ => rfl⟩
        have hh_22 := hh_19.sub (L1 := [(r0, 1, 1, .ref s.heap.size), (r0, 1, 2, .int lz)]) [0, 1] rfl (M1 := []) [] rfl (I1 := []) [] rfl
        clear hh_19
        have hh_23 := hh_22.addI (jLs.ie hd_20)
        clear hh_22
        have hsz_24 := hh_23.2.2.2.2.2.1
        have htt_24 := hh_23.2.2.2.2.2.2.1
        refine W.room (fun hrc_24 hrs_24 => ?_)
        refine W.widen (k := LC - s.heap.size) (n := LS - jTot s.heap) (by omega) (by omega) ?_
        rw [hQ]
        exact W.aret (v := .ref s.heap.size) hx hb hr (Or.inr ⟨_, rfl⟩) (Or.inr ⟨_, rfl⟩) (fun t ht hW => ⟨⟨.ref s.heap.size, (s.heap.size, nc_11, G_11), rfl, ⟨rfl, by (try dsimp only); first | omega | rfl | assumption | fail⟩, ⟨hh_23.ra (by first | (simp only; omega) | omega) (by first | (simp only; omega) | omega) (M1 := [(r0, 1, 1, .ref s.heap.size)]) [0] rfl ht, hgn_11, hNn_11, by rw [ht]; exact hh_23.2.2.2.2.2.2.2.2.sub (L1 := [(jFl, jLs dC dI ca G_11 3 none wl)]) [0] rfl⟩⟩, by rw [ht]; try exact hh_23.1.1, fun q h9 hq => by rw [ht]; try exact hh_23.1.2.1 q h9 hq⟩) hh_23.1.2.2 dJx4a65c_grow_92f84_59
      · skip
        exact absurd rfl c_8
  · skip
    exact absurd (hh.ab hg_lx_1).1 (va_T.out hK7.2.2.2.2.2.2.2)
set_option maxHeartbeats 4000000 in
set_option maxRecDepth 20000 in
theorem uJx4a65c_grow_92f84L1 (l : Launch) (dC : Nat → ClassId) (dI : Nat → Nat → Nat) (ca : Nat → ClassId) (base : Nat) (B : jF) (hB : jBok B) (hAp : jAp (dC, dI)) (hB1 : ∀ n G a H, B 1 n G a H ↔ jOb (dC, dI) 1 3 (F1 n G) a H) (hB3 : ∀ n G a H, B 3 n G a H ↔ jOb (dC, dI) 3 17 (F3 n G) a H) (hB221 : ∀ n G a H, B 221 n G a H ↔ jAq (dC, dI) (ca 9) (jQn 3 0) n G a H) (G0 : jT) (H0 : Heap) (r0 : Nat) (a1 : Int32) (ed : Nat) (n_ed : Nat) (lz : Int32) (wl : jWl9) (LC LS : Nat) : Met l yJx4a65c_grow_92f84 (jw yJx4a65c_grow_92f84 cJx4a65c_grow_92f84 4 (some (.array (.object "java/lang/Object")))) ({ frames := 3, cells := LC - H0.size, slots := LS - jTot H0, locals := 105 }) (va_Pc [.ref r0, .int a1] (fun U => U.heap = H0 ∧ jX B base G0 [] H0 ∧ jG dC dI ca base U ∧ jK7 dC dI ca base U ∧ G0 r0 = some (1, 1) ∧ G0 ed = some (221, n_ed) ∧ jP (dC, dI) G0 H0 [(r0, 1, 1, .ref ed), (r0, 1, 2, .int lz)] ∧ jIs (dC, dI) G0 H0 [(jFl, jLs dC dI ca G0 3 none wl)] ∧ H0.size + 1 ≤ LC ∧ jTot H0 + 40 ≤ LS ∧ a1.toInt = lz.toInt + 1 ∧ lz.toInt = n_ed ∧ lz.toInt ≤ 24)) (jQx (S := Nat × Nat × jT) (fun v u => v = .ref u.1 ∧ lz.toInt + 1 ≤ u.2.1 ∧ u.2.1 ≤ 40) (fun u t => jRa (dC, dI) B base G0 u.2.2 EJx4a65c_grow_92f84L1 H0 (1) (40) [(r0, 1, 1, .ref u.1)] t.heap ∧ u.2.2 u.1 = some (221, u.2.1) ∧ (jNk [0, 1, 2, 3, 4, 5, 6, 7, 8, 9, 10, 11, 12, 13, 14, 15, 16, 17, 175]) G0 u.2.2 ∧ jIs (dC, dI) u.2.2 t.heap [(jFl, jLs dC dI ca u.2.2 3 none wl)]) (jA base)) (LC - H0.size) (LS - jTot H0) (jA base) := by
  refine Met.ofW (cc := cJx4a65c_grow_92f84) (maxL := 4) (ret := (some (.array (.object "java/lang/Object")))) (by decide) rfl ?_
  intro p e s m args below meth c s₁ Bd hml hv
  obtain ⟨rfl, hH0, hX, hG, hK7, hg_r0, hg_ed, hP0, hI0, hLC0, hLS0, hp0, hp1, hp2⟩ := hv
  have hK := hG.1
  have hx := Bd.exec
  have hb := Bd.bytes
  have hr := Bd.returns
  have hts := atoms_spec (ws := (jw yJx4a65c_grow_92f84 cJx4a65c_grow_92f84 4 (some (.array (.object "java/lang/Object"))))) Bd.pre
  have htw : ∀ w ∈ jWl, w.before _ s = true := fun w h => hts w (List.mem_cons_of_mem _ h)
  have hown : s.vm.findClass RJx4a65c = some m.cls := findClass_of_methodNamed Bd.named
  have hlocks := Bd.notSynchronized
  obtain ⟨Q, hQ⟩ : ∃ Q, Q = MQ below (jQx (S := Nat × Nat × jT) (fun v u => v = .ref u.1 ∧ lz.toInt + 1 ≤ u.2.1 ∧ u.2.1 ≤ 40) (fun u t => jRa (dC, dI) B base G0 u.2.2 EJx4a65c_grow_92f84L1 H0 (1) (40) [(r0, 1, 1, .ref u.1)] t.heap ∧ u.2.2 u.1 = some (221, u.2.1) ∧ (jNk [0, 1, 2, 3, 4, 5, 6, 7, 8, 9, 10, 11, 12, 13, 14, 15, 16, 17, 175]) G0 u.2.2 ∧ jIs (dC, dI) u.2.2 t.heap [(jFl, jLs dC dI ca u.2.2 3 none wl)]) (jA base)) ([.ref r0, .int a1] : List Value).toArray s (LC - H0.size) (LS - jTot H0) (jA base) := ⟨_, rfl⟩
  rw [← hQ]
  have hl := lv_entry ([.ref r0, .int a1]) (n := 4) (Nat.le_of_ble_eq_true rfl)
  rw [lg_entry_eq]
  generalize (lg_sl ([.ref r0, .int a1]) ++ List.replicate (4 - (lg_sl ([.ref r0, .int a1])).length) Slot.unset).toArray = ls at hl ⊢
  have hl : lv_has ls 4 [(0, .ref r0), (1, .int a1)] := hl
  generalize hR : (headSpec (jw yJx4a65c_grow_92f84 cJx4a65c_grow_92f84 4 (some (.array (.object "java/lang/Object")))) ({ frames := 3, cells := LC - H0.size, slots := LS - jTot H0, locals := 105 })).room = R
  subst hH0
  have hh : jSt (dC, dI) B base G0 G0 EJx4a65c_grow_92f84L1 s.heap 0 0 [(r0, 1, 1, .ref ed), (r0, 1, 2, .int lz)] [] [(jFl, jLs dC dI ca G0 3 none wl)] s.heap [] := jSt.start hX hP0 jMc.nil hI0
  clear hX hP0
  have hk0 : (0 : Int32).toInt = 0 := by decide
  have hk1 : (1 : Int32).toInt = 1 := by decide
  have hk10 : (10 : Int32).toInt = 10 := by decide
  have hly_1_1 := htw (u_lay RJx4a65c TJx4a65c 1) (jWc_wsJx4a65c0 _ (u_in_lay (by decide)))
  have hlk_9 := (htw (.fieldLink RJx4a65c 9 "java/util/ArrayList" "elementData" "[Ljava/lang/Object;") (jWr_9 _ (List.mem_of_getElem? (i := 15) rfl)))
  have hrg_a1 := jb_rng a1
  have hbs : base ≤ s.heap.size := Nat.le_of_lt (Nat.lt_of_le_of_lt (hh.ab hg_r0).1 (hh.ab hg_r0).2)
  have hRc : R.cells = LC - s.heap.size := by rw [← hR]; rfl
  have hRs : R.slots = LS - jTot s.heap := by rw [← hR]; rfl
  obtain ⟨lz_1, lx_1, hl1_1, hl2_1, hl3_1, hl4_1⟩ := jLs.at (hh.iv 0 rfl) hg_r0
  obtain rfl : lz = lz_1 := Value.int.inj (jf.uniq (hh.at 1 rfl) hl1_1)
  have hl3_1 : 0 ≤ lz.toInt ∧ lz.toInt ≤ 3 := hl3_1
  obtain rfl : ed = lx_1 := Value.ref.inj (jf.uniq (hh.at 0 rfl) hl2_1)
  rcases hl4_1 with ⟨hl9_1, hl5_1, hl0_1, hlE_1⟩ | ⟨lm_1, lf_1, hg_lx_1, hlm_1, hl6_1, hl7_1, hl8_1, hlw_1, hlY_1⟩
  · skip
    exact absurd (show base ≤ dI 99 0 by rw [← hl9_1]; exact (hh.ab hg_ed).1) (va_T.out hK7.2.2.2.2.2.2.2)
  · skip
    obtain rfl : n_ed = lm_1 := by have h9 := Option.some.inj (hg_ed.symm.trans hg_lx_1); exact congrArg Prod.snd h9
    have hd_2 := jLs.less (hh.iv 0 rfl) r0
    have hh_3 := hh.sub (L1 := [(r0, 1, 1, .ref ed), (r0, 1, 2, .int lz)]) [0, 1] rfl (M1 := []) [] rfl (I1 := []) [] rfl
    clear hh
    have hh_4 := hh_3.addI (jLs.ie hd_2)
    clear hh_3
    have hh_5 := hh_4.addI (jQc.ie hl7_1 hg_lx_1 (by decide) (by decide))
    clear hh_4
    refine lv_aload_n hx hb dJx4a65c_grow_92f84_0 rfl (lv_at hl 0 rfl) ?_
    refine j7_read hx hb hown hK (C := RJx4a65c) (T := TJx4a65c) (N := 3) rfl hly_1_1 hlk_9 (hh_5.at 0 rfl) dJx4a65c_grow_92f84_1 ?_
    refine j7_qlen hx hb hK7.1 hh_5 hB221 0 rfl (by decide) hg_ed (by omega) dJx4a65c_grow_92f84_4 (fun z_6 hz_6 => ?_)
    refine lv_istore_n (lv' := [(2, .int z_6), (0, .ref r0), (1, .int a1)]) hx hb dJx4a65c_grow_92f84_5 rfl hl (by decide) rfl (fun ls hl => ?_)
    refine lv_iload_n hx hb dJx4a65c_grow_92f84_6 rfl (lv_at hl 0 rfl) ?_
    refine lv_if_gt (tgt := 20) hx hb dJx4a65c_grow_92f84_7 (by decide) (fun c_7 => ?_) (fun c_7 => ?_)
    · skip
      have c_7' : z_6.toInt > 0 := jb_gt (rfl) ((by decide)) c_7
      refine lv_iload_n hx hb dJx4a65c_grow_92f84_20 rfl (lv_at hl 0 rfl) ?_
      refine lv_iload_n hx hb dJx4a65c_grow_92f84_21 rfl (lv_at hl 2 rfl) ?_
      refine lv_iload_n hx hb dJx4a65c_grow_92f84_22 rfl (lv_at hl 0 rfl) ?_
      refine lv_isub hx hb dJx4a65c_grow_92f84_23 ?_
      refine lv_topi (fun z_8 ez_8 => ?_)
      have hz_8 : z_8.toInt = a1.toInt - z_6.toInt := by rw [ez_8]; exact jb_isub2 (rfl) (rfl) (by omega)
      refine lv_iload_n hx hb dJx4a65c_grow_92f84_24 rfl (lv_at hl 0 rfl) ?_
      refine lv_iconst (v := 1) hx hb dJx4a65c_grow_92f84_25 (by decide) ?_
      refine lv_ishr hx hb dJx4a65c_grow_92f84_26 ?_
      refine lv_topi (fun z_9 ez_9 => ?_)
      have hz_9 : z_9.toInt = z_6.toInt / 2 ^ 1 := by rw [ez_9]; exact jb_ishr 1 (rfl) (by decide)
      have hsz_10 := hh_5.2.2.2.2.2.1
      have htt_10 := hh_5.2.2.2.2.2.2.1
      refine W.room (fun hrc_10 hrs_10 => ?_)
      refine va_calli (A0 := jA base) (H0 := s.heap) (va_runS (As := [.int z_6, .int z_8, .int z_9]) (rest := []) ⟨hx, hb, hml, hown, hts⟩ (uJ8_newLength_cabcc l dC dI ca base B hB hAp G0 s.heap z_6 z_8 z_9) (va_cwS 3 hts (jgS (jWr_34 _ (List.mem_of_getElem? (i := 3) rfl)) (jWr_34 _ (List.mem_of_getElem? (i := 4) rfl)) (jWr_34 _ (List.mem_of_getElem? (i := 5) rfl)) (jWr_34 _ (List.mem_of_getElem? (i := 6) rfl))) rfl rfl rfl (by decide +kernel) ⟨by rw [← hR]; exact Nat.le_of_ble_eq_true rfl, by rw [← hR]; exact Nat.le_of_ble_eq_true rfl⟩) ⟨fun a U g mk q => by obtain ⟨q0, q1, q2, qK, q10, q11⟩ := q; exact ⟨q0, q1, q2, jG.calling g mk a qK, q10, q11⟩, fun U hU hW => ⟨rfl, hU, hh_5.2.1, hG.step hW hU hh_5.1, jP.nil, by first | omega | (refine ⟨?_, ?_, ?_, ?_, ?_, ?_⟩ <;> (first | omega | rfl | assumption | decide | exact Or.inl rfl | exact Or.inr rfl | (simp only; omega)))⟩⟩ rfl rfl hl.1 rfl (lv_room (Nat.le_of_ble_eq_true rfl)) dJx4a65c_grow_92f84_27 ⟨by rw [hRc]; show _ + 0 ≤ _; omega, by rw [hRs]; show _ + 0 ≤ _; omega⟩) hh_5.1 (fun q _ h => h) (fun q h => h) (fun r_11 u_10 t_10 H_10 locs_10 ht_10 hvm_10 hr_11 hb_10 hz_10 hk_10 hS_10 => ?_)
      rw [ht_10] at hb_10
      obtain ⟨hb_101, hb_102, hb_103, hb_104, hb_105⟩ := hb_10
      have hh_10 : jSt (dC, dI) B base G0 G0 EJx4a65c_grow_92f84L1 s.heap 0 0 [(r0, 1, 1, .ref ed), (r0, 1, 2, .int lz)] [] [([(221, 0)], jQc dC dI (ca 9) ed n_ed lf_1), (jFl, jLs dC dI ca G0 3 (some r0) wl)] H_10 locs_10 := ((hh_5.call hb_101 hb_102 hb_103 hb_104 hS_10 rfl (L1 := [(r0, 1, 1, .ref ed), (r0, 1, 2, .int lz)]) [0, 1] rfl rfl (M1 := []) [] rfl rfl (I1 := [([(221, 0)], jQc dC dI (ca 9) ed n_ed lf_1), (jFl, jLs dC dI ca G0 3 (some r0) wl)]) [0, 1] rfl rfl).more hb_105)
      clear hh_5 ht_10 hvm_10 hz_10 hk_10 hS_10 hb_101 hb_102 hb_103 hb_104 hb_105
      obtain ⟨hr_11_0, hr_11_1, hr_11_2⟩ := hr_11
      refine lv_istore_n (lv' := [(3, .int r_11), (2, .int z_6), (0, .ref r0), (1, .int a1)]) hx hb dJx4a65c_grow_92f84_30 rfl hl (by decide) rfl (fun ls hl => ?_)
      refine lv_aload_n hx hb dJx4a65c_grow_92f84_31 rfl (lv_at hl 2 rfl) ?_
      refine lv_aload_n hx hb dJx4a65c_grow_92f84_32 rfl (lv_at hl 2 rfl) ?_
      refine j7_read hx hb hown hK (C := RJx4a65c) (T := TJx4a65c) (N := 3) rfl hly_1_1 hlk_9 (hh_10.at 0 rfl) dJx4a65c_grow_92f84_33 ?_
      refine lv_iload_n hx hb dJx4a65c_grow_92f84_36 rfl (lv_at hl 0 rfl) ?_
      have hsz_12 := hh_10.2.2.2.2.2.1
      have htt_12 := hh_10.2.2.2.2.2.2.1
      refine W.room (fun hrc_12 hrs_12 => ?_)
      refine j_callx (A0 := jA base) (H0 := s.heap) (va_runS (As := [.ref ed, .int r_11]) (rest := [.ref r0]) ⟨hx, hb, hml, hown, hts⟩ (uJ7_copyOf_1904cL1 l dC dI ca base B hB hAp hB3 hB221 G0 H_10 ed r_11 n_ed lf_1 LC LS) (va_cwS 2 hts (jgS (jWr_34 _ (List.mem_of_getElem? (i := 12) rfl)) (jWr_34 _ (List.mem_of_getElem? (i := 13) rfl)) (jWr_16 _ (List.mem_of_getElem? (i := 7) rfl)) (jWr_34 _ (List.mem_of_getElem? (i := 14) rfl))) rfl rfl rfl (by decide +kernel) ⟨by rw [← hR]; exact Nat.le_of_ble_eq_true rfl, by rw [← hR]; exact Nat.le_of_ble_eq_true rfl⟩) ⟨fun a U g mk q => by obtain ⟨q0, q1, q2, qK, q10, q11, q12, q13, q14⟩ := q; exact ⟨q0, q1, q2, jG.calling g mk a qK, (jK7.calling g mk a q10), q11, q12, q13, q14⟩, fun U hU hW => ⟨rfl, hU, hh_10.2.1, hG.step hW hU hh_10.1, (hK7.step hW hU hh_10.1), hg_ed, jP.nil, (hh_10.2.2.2.2.2.2.2.2.sub (L1 := [([(221, 0)], jQc dC dI (ca 9) ed n_ed lf_1)]) [0] rfl), by first | omega | (refine ⟨?_, ?_, ?_⟩ <;> (first | omega | rfl | assumption | decide | exact Or.inl rfl | exact Or.inr rfl | (simp only; omega)))⟩⟩ rfl rfl hl.1 rfl (lv_room (Nat.le_of_ble_eq_true rfl)) dJx4a65c_grow_92f84_37 ⟨by rw [hRc]; omega, by rw [hRs]; omega⟩) hh_10.1 (fun q _ h => h) (fun q h => h) (fun r_13 u_12 t_12 H_12 locs_12 ht_12 hvm_12 hr_13 hb_12 hz_12 hk_12 hS_12 => ?_)
      rw [ht_12] at hb_12
      obtain ⟨x_ret_12, m_ret_12, G_12⟩ := u_12
      simp only at hb_12
      obtain ⟨⟨hb_121, hb_122, hb_123, hb_124, hb_125, hb_126⟩, hN_12, hbQ_12, hbK_12⟩ := hb_12
      have hh_12 : jSt (dC, dI) B base G0 G_12 EJx4a65c_grow_92f84L1 s.heap (0 + (1)) (0 + (m_ret_12)) [(r0, 1, 1, .ref ed), (r0, 1, 2, .int lz)] [] [([(221, 0)], jQc dC dI (ca 9) ed n_ed lf_1), (jFl, jLs dC dI ca G0 3 (some r0) wl)] H_12 locs_12 := (hh_10.callG hb_121 hb_122 hb_123 hb_124 hb_125 hS_12 rfl (L1 := [(r0, 1, 1, .ref ed), (r0, 1, 2, .int lz)]) [0, 1] rfl rfl (M1 := []) [] rfl rfl (I1 := [([(221, 0)], jQc dC dI (ca 9) ed n_ed lf_1), (jFl, jLs dC dI ca G0 3 (some r0) wl)]) [0, 1] rfl rfl).more hb_126
      have hNn_12 : (jNk [0, 1, 2, 3, 4, 5, 6, 7, 8, 9, 10, 11, 12, 13, 14, 15, 16, 17, 175]) G0 G_12 := (jNk.rf).tr hN_12
      have hg_14 := hb_122 _ _ hg_r0
      have hg_15 := hb_122 _ _ hg_ed
      have hd_17 := jLs.grow (hh_12.iv 1 rfl) hb_122 hN_12 (by decide)
      have hh_18 := hh_12.sub (L1 := [(r0, 1, 1, .ref ed), (r0, 1, 2, .int lz)]) [0, 1] rfl (M1 := []) [] rfl (I1 := [([(221, 0)], jQc dC dI (ca 9) ed n_ed lf_1)]) [0] rfl
      clear hh_12
      have hh_19 := hh_18.addI (jLs.ie hd_17)
      clear hh_18
      obtain ⟨rfl, hr_13, hr_13n, hr_13p⟩ := hr_13
      try simp only at hr_13p
      have hgr_12 : G_12 x_ret_12 = some (221, m_ret_12) := by obtain ⟨y9, e9, h9⟩ := hr_13; cases e9; exact h9
      have hsy_12 : s.heap.size ≤ x_ret_12 := Nat.le_trans hh_10.1.1 hr_13n.le
      obtain ⟨fr_12, hqa_12, hqr_12⟩ := hbQ_12
      have hh_20 := hh_19.addI (jQc.ie hqa_12 hgr_12 (by decide) (by decide))
      clear hh_19
      refine lv_dup_x1 hx hb dJx4a65c_grow_92f84_40 rfl rfl ?_
      have hd_22 := hh_20.iv 1 rfl
      have hh_23 := hh_20.sub (L1 := [(r0, 1, 1, .ref ed), (r0, 1, 2, .int lz)]) [0, 1] rfl (M1 := []) [] rfl (I1 := [([(221, 0)], jQc dC dI (ca 9) x_ret_12 m_ret_12 fr_12), ([(221, 0)], jQc dC dI (ca 9) ed n_ed lf_1)]) [0, 2] rfl
      clear hh_20
      refine j7_putX hx hb hown hK hh_23 hB hAp hB1 (C := RJx4a65c) (T := TJx4a65c) (N := 3) rfl (by decide) hg_14 (i := 1) (by decide) hly_1_1 rfl hlk_9 rfl (ty := (.array (.object "java/lang/Object"))) (v := .ref x_ret_12) (by decide +kernel) rfl rfl (⟨_, rfl⟩) rfl (L1 := [(r0, 1, 2, .int lz)]) [1] rfl rfl rfl dJx4a65c_grow_92f84_41 (fun H_21 locs_21 hr_21 hh_21 => ?_)
      clear hh_23
      have hd_22n := jLs.fld hd_22 hg_14 hr_21
      have hh_24 := hh_21.addI (jLs.ie hd_22n)
      clear hh_21
      clear hd_22 hd_22n hr_21
      have hd_25 := jLs.full (wn := wl) (hh_24.iv 0 rfl) hg_14 ⟨_, _, hh_24.at 1 rfl, hh_24.at 0 rfl, ⟨by omega, (show _ ≤ (3 : Int) by omega)⟩, Or.inr ⟨_, _, hgr_12, by omega, by omega, hh_24.iv 1 rfl, (fun i h9 => by rw [hqr_12 i (by omega)]; exact hl8_1 i (by omega)), (fun q => ⟨(hlw_1 q).1, fun i h9 => by rw [hqr_12 i (by omega)]; exact (hlw_1 q).2 i (by omega)⟩), (fun q => absurd rfl q)⟩⟩ ⟨fun q => absurd rfl q, fun _ => rfl, fun _ => rfl⟩
      have hh_26 := hh_24.sub (L1 := [(r0, 1, 1, .ref x_ret_12), (r0, 1, 2, .int lz)]) [0, 1] rfl (M1 := []) [] rfl (I1 := [([(221, 0)], jQc dC dI (ca 9) x_ret_12 m_ret_12 fr_12), ([(221, 0)], jQc dC dI (ca 9) ed n_ed lf_1)]) [1, 2] rfl
      clear hh_24
      have hh_27 := hh_26.addI (jLs.ie hd_25)
      clear hh_26
      have hsz_28 := hh_27.2.2.2.2.2.1
      have htt_28 := hh_27.2.2.2.2.2.2.1
      refine W.room (fun hrc_28 hrs_28 => ?_)
      refine W.widen (k := LC - s.heap.size) (n := LS - jTot s.heap) (by omega) (by omega) ?_
      rw [hQ]
      exact W.aret (v := .ref x_ret_12) hx hb hr (Or.inr ⟨_, rfl⟩) (Or.inr ⟨_, rfl⟩) (fun t ht hW => ⟨⟨.ref x_ret_12, (x_ret_12, m_ret_12, G_12), rfl, ⟨rfl, by (try dsimp only); exact ⟨(by first | omega | rfl | assumption | fail), (by first | omega | rfl | assumption | fail)⟩⟩, ⟨hh_27.ra (by first | (simp only; omega) | omega) (by first | (simp only; omega) | omega) (M1 := [(r0, 1, 1, .ref x_ret_12)]) [0] rfl ht, hgr_12, hNn_12, by rw [ht]; exact hh_27.2.2.2.2.2.2.2.2.sub (L1 := [(jFl, jLs dC dI ca G_12 3 none wl)]) [0] rfl⟩⟩, by rw [ht]; try exact hh_27.1.1, fun q h9 hq => by rw [ht]; try exact hh_27.1.2.1 q h9 hq⟩) hh_27.1.2.2 dJx4a65c_grow_92f84_44
    · skip
      have c_7' : z_6.toInt ≤ 0 := jb_gt_n (rfl) ((by decide)) c_7
      exact absurd c_7' (by omega)
set_option maxHeartbeats 4000000 in
set_option maxRecDepth 20000 in
theorem uJx4a65c_grow_d5877E1 (l : Launch) (dC : Nat → ClassId) (dI : Nat → Nat → Nat) (ca : Nat → ClassId) (base : Nat) (B : jF) (hB : jBok B) (hAp : jAp (dC, dI)) (hB1 : ∀ n G a H, B 1 n G a H ↔ jOb (dC, dI) 1 3 (F1 n G) a H) (hB3 : ∀ n G a H, B 3 n G a H ↔ jOb (dC, dI) 3 17 (F3 n G) a H) (hB221 : ∀ n G a H, B 221 n G a H ↔ jAq (dC, dI) (ca 9) (jQn 3 0) n G a H) (G0 : jT) (H0 : Heap) (r0 : Nat) (lz : Int32) (wl : jWl9) (LC LS : Nat) : Met l yJx4a65c_grow_d5877 (jw yJx4a65c_grow_d5877 cJx4a65c_grow_d5877 1 (some (.array (.object "java/lang/Object")))) ({ frames := 4, cells := LC - H0.size, slots := LS - jTot H0, locals := 128 }) (va_Pc [.ref r0] (fun U => U.heap = H0 ∧ jX B base G0 [] H0 ∧ jG dC dI ca base U ∧ jK7 dC dI ca base U ∧ G0 r0 = some (1, 1) ∧ jP (dC, dI) G0 H0 [(r0, 1, 1, .ref (dI 99 0)), (r0, 1, 2, .int lz)] ∧ jIs (dC, dI) G0 H0 [(jFl, jLs dC dI ca G0 3 none wl)] ∧ H0.size + 1 ≤ LC ∧ jTot H0 + 40 ≤ LS ∧ lz.toInt = 0)) (jQx (S := Nat × Nat × jT) (fun v u => v = .ref u.1 ∧ u.2.1 = 10) (fun u t => jRa (dC, dI) B base G0 u.2.2 EJx4a65c_grow_d5877E1 H0 (1) (40) [(r0, 1, 1, .ref u.1)] t.heap ∧ u.2.2 u.1 = some (221, u.2.1) ∧ (jNk [0, 1, 2, 3, 4, 5, 6, 7, 8, 9, 10, 11, 12, 13, 14, 15, 16, 17, 175]) G0 u.2.2 ∧ jIs (dC, dI) u.2.2 t.heap [(jFl, jLs dC dI ca u.2.2 3 none wl)]) (jA base)) (LC - H0.size) (LS - jTot H0) (jA base) := by
  refine Met.ofW (cc := cJx4a65c_grow_d5877) (maxL := 1) (ret := (some (.array (.object "java/lang/Object")))) (by decide) rfl ?_
  intro p e s m args below meth c s₁ Bd hml hv
  obtain ⟨rfl, hH0, hX, hG, hK7, hg_r0, hP0, hI0, hLC0, hLS0, hp0⟩ := hv
  have hK := hG.1
  have hx := Bd.exec
  have hb := Bd.bytes
  have hr := Bd.returns
  have hts := atoms_spec (ws := (jw yJx4a65c_grow_d5877 cJx4a65c_grow_d5877 1 (some (.array (.object "java/lang/Object"))))) Bd.pre
  have htw : ∀ w ∈ jWl, w.before _ s = true := fun w h => hts w (List.mem_cons_of_mem _ h)
  have hown : s.vm.findClass RJx4a65c = some m.cls := findClass_of_methodNamed Bd.named
  have hlocks := Bd.notSynchronized
  obtain ⟨Q, hQ⟩ : ∃ Q, Q = MQ below (jQx (S := Nat × Nat × jT) (fun v u => v = .ref u.1 ∧ u.2.1 = 10) (fun u t => jRa (dC, dI) B base G0 u.2.2 EJx4a65c_grow_d5877E1 H0 (1) (40) [(r0, 1, 1, .ref u.1)] t.heap ∧ u.2.2 u.1 = some (221, u.2.1) ∧ (jNk [0, 1, 2, 3, 4, 5, 6, 7, 8, 9, 10, 11, 12, 13, 14, 15, 16, 17, 175]) G0 u.2.2 ∧ jIs (dC, dI) u.2.2 t.heap [(jFl, jLs dC dI ca u.2.2 3 none wl)]) (jA base)) ([.ref r0] : List Value).toArray s (LC - H0.size) (LS - jTot H0) (jA base) := ⟨_, rfl⟩
  rw [← hQ]
  have hl := lv_entry ([.ref r0]) (n := 1) (Nat.le_of_ble_eq_true rfl)
  rw [lg_entry_eq]
  generalize (lg_sl ([.ref r0]) ++ List.replicate (1 - (lg_sl ([.ref r0])).length) Slot.unset).toArray = ls at hl ⊢
  have hl : lv_has ls 1 [(0, .ref r0)] := hl
  generalize hR : (headSpec (jw yJx4a65c_grow_d5877 cJx4a65c_grow_d5877 1 (some (.array (.object "java/lang/Object")))) ({ frames := 4, cells := LC - H0.size, slots := LS - jTot H0, locals := 128 })).room = R
  subst hH0
  have hh : jSt (dC, dI) B base G0 G0 EJx4a65c_grow_d5877E1 s.heap 0 0 [(r0, 1, 1, .ref (dI 99 0)), (r0, 1, 2, .int lz)] [] [(jFl, jLs dC dI ca G0 3 none wl)] s.heap [] := jSt.start hX hP0 jMc.nil hI0
  clear hX hP0
  have hk0 : (0 : Int32).toInt = 0 := by decide
  have hk1 : (1 : Int32).toInt = 1 := by decide
  have hly_1_2 := htw (u_lay RJx4a65c TJx4a65c 2) (jWc_wsJx4a65c0 _ (u_in_lay (by decide)))
  have hlk_48 := (htw (.fieldLink RJx4a65c 48 "java/util/ArrayList" "size" "I") (jWr_28 _ (List.mem_of_getElem? (i := 2) rfl)))
  have hbs : base ≤ s.heap.size := Nat.le_of_lt (Nat.lt_of_le_of_lt (hh.ab hg_r0).1 (hh.ab hg_r0).2)
  have hRc : R.cells = LC - s.heap.size := by rw [← hR]; rfl
  have hRs : R.slots = LS - jTot s.heap := by rw [← hR]; rfl
  refine lv_aload_n hx hb dJx4a65c_grow_d5877_0 rfl (lv_at hl 0 rfl) ?_
  refine lv_aload_n hx hb dJx4a65c_grow_d5877_1 rfl (lv_at hl 0 rfl) ?_
  refine j7_read hx hb hown hK (C := RJx4a65c) (T := TJx4a65c) (N := 3) rfl hly_1_2 hlk_48 (hh.at 1 rfl) dJx4a65c_grow_d5877_2 ?_
  refine lv_iconst (v := 1) hx hb dJx4a65c_grow_d5877_5 (by decide) ?_
  refine lv_iadd hx hb dJx4a65c_grow_d5877_6 ?_
  refine lv_topi (fun z_1 ez_1 => ?_)
  have hz_1 : z_1.toInt = lz.toInt + 1 := by rw [ez_1]; exact jb_iadd2 (rfl) ((by decide)) (by omega)
  have hsz_2 := hh.2.2.2.2.2.1
  have htt_2 := hh.2.2.2.2.2.2.1
  refine W.room (fun hrc_2 hrs_2 => ?_)
  refine j_callx (A0 := jA base) (H0 := s.heap) (va_runV (As := [.int z_1]) (rest := []) ⟨hx, hb, hml, hown, hts⟩ (uJx4a65c_grow_92f84E1 l dC dI ca base B hB hAp hB1 hB3 hB221 G0 s.heap r0 z_1 lz wl LC LS) (cwV 1 hts (jgV (jWr_33 _ (List.mem_of_getElem? (i := 21) rfl)) (jWr_33 _ (List.mem_of_getElem? (i := 22) rfl)) (jWr_33 _ (List.mem_of_getElem? (i := 23) rfl)) (jWr_2 _ (List.mem_of_getElem? (i := 13) rfl)) (jWr_34 _ (List.mem_of_getElem? (i := 0) rfl))) rfl rfl rfl (by decide +kernel) ⟨by rw [← hR]; exact Nat.le_of_ble_eq_true rfl, by rw [← hR]; exact Nat.le_of_ble_eq_true rfl⟩) ⟨fun a U g mk q => by obtain ⟨q0, q1, q2, qK, q10, q11, q12, q13, q14⟩ := q; exact ⟨q0, q1, q2, jG.calling g mk a qK, (jK7.calling g mk a q10), q11, q12, q13, q14⟩, hh.recv (C := RJx4a65c) (T := TJx4a65c) (N := 3) hB1 rfl (by decide) hg_r0 hK, fun U hU hW => ⟨rfl, hU, hh.2.1, hG.step hW hU hh.1, (hK7.step hW hU hh.1), hg_r0, (hh.2.2.1.sub (L1 := [(r0, 1, 1, .ref (dI 99 0)), (r0, 1, 2, .int lz)]) [0, 1] rfl), (hh.2.2.2.2.2.2.2.2.sub (L1 := [(jFl, jLs dC dI ca G0 3 none wl)]) [0] rfl), by first | omega | (refine ⟨?_, ?_⟩ <;> (first | omega | rfl | assumption | decide | exact Or.inl rfl | exact Or.inr rfl | (simp only; omega)))⟩⟩ rfl rfl hl.1 rfl (lv_room (Nat.le_of_ble_eq_true rfl)) dJx4a65c_grow_d5877_7 ⟨by rw [hRc]; omega, by rw [hRs]; omega⟩) hh.1 (fun q _ h => h) (fun q h => h) (fun r_3 u_2 t_2 H_2 locs_2 ht_2 hvm_2 hr_3 hb_2 hz_2 hk_2 hS_2 => ?_)
  rw [ht_2] at hb_2
  obtain ⟨qa_2, m_qa_2, G_2⟩ := u_2
  simp only at hb_2
  obtain ⟨⟨hb_21, hb_22, hb_23, hb_24, hb_25, hb_26⟩, hgq_2_0, hN_2, hbE_2⟩ := hb_2
  have hh_2 : jSt (dC, dI) B base G0 G_2 EJx4a65c_grow_d5877E1 s.heap (0 + (1)) (0 + (40)) [(r0, 1, 1, .ref qa_2), (r0, 1, 2, .int lz)] [] [] H_2 locs_2 := (hh.callG hb_21 hb_22 hb_23 hb_24 hb_25 hS_2 rfl (L1 := [(r0, 1, 2, .int lz)]) [1] rfl rfl (M1 := []) [] rfl rfl (I1 := []) [] rfl rfl).more hb_26
  have hNn_2 : (jNk [0, 1, 2, 3, 4, 5, 6, 7, 8, 9, 10, 11, 12, 13, 14, 15, 16, 17, 175]) G0 G_2 := (jNk.rf).tr hN_2
  have hg_4 := hb_22 _ _ hg_r0
  have hh_5 := hh_2.addIs hbE_2
  obtain ⟨rfl, hr_3p⟩ := hr_3
  try simp only at hr_3p
  have hsz_6 := hh_5.2.2.2.2.2.1
  have htt_6 := hh_5.2.2.2.2.2.2.1
  refine W.room (fun hrc_6 hrs_6 => ?_)
  refine W.widen (k := LC - s.heap.size) (n := LS - jTot s.heap) (by omega) (by omega) ?_
  rw [hQ]
  exact W.aret (v := .ref qa_2) hx hb hr (Or.inr ⟨_, rfl⟩) (Or.inr ⟨_, rfl⟩) (fun t ht hW => ⟨⟨.ref qa_2, (qa_2, m_qa_2, G_2), rfl, ⟨rfl, by (try dsimp only); first | omega | rfl | assumption | fail⟩, ⟨hh_5.ra (by first | (simp only; omega) | omega) (by first | (simp only; omega) | omega) (M1 := [(r0, 1, 1, .ref qa_2)]) [0] rfl ht, hgq_2_0, hNn_2, by rw [ht]; exact hh_5.2.2.2.2.2.2.2.2.sub (L1 := [(jFl, jLs dC dI ca G_2 3 none wl)]) [0] rfl⟩⟩, by rw [ht]; try exact hh_5.1.1, fun q h9 hq => by rw [ht]; try exact hh_5.1.2.1 q h9 hq⟩) hh_5.1.2.2 dJx4a65c_grow_d5877_10
set_option maxHeartbeats 4000000 in
set_option maxRecDepth 20000 in
theorem uJx4a65c_grow_d5877L1 (l : Launch) (dC : Nat → ClassId) (dI : Nat → Nat → Nat) (ca : Nat → ClassId) (base : Nat) (B : jF) (hB : jBok B) (hAp : jAp (dC, dI)) (hB1 : ∀ n G a H, B 1 n G a H ↔ jOb (dC, dI) 1 3 (F1 n G) a H) (hB3 : ∀ n G a H, B 3 n G a H ↔ jOb (dC, dI) 3 17 (F3 n G) a H) (hB221 : ∀ n G a H, B 221 n G a H ↔ jAq (dC, dI) (ca 9) (jQn 3 0) n G a H) (G0 : jT) (H0 : Heap) (r0 : Nat) (ed : Nat) (n_ed : Nat) (lz : Int32) (wl : jWl9) (LC LS : Nat) : Met l yJx4a65c_grow_d5877 (jw yJx4a65c_grow_d5877 cJx4a65c_grow_d5877 1 (some (.array (.object "java/lang/Object")))) ({ frames := 4, cells := LC - H0.size, slots := LS - jTot H0, locals := 128 }) (va_Pc [.ref r0] (fun U => U.heap = H0 ∧ jX B base G0 [] H0 ∧ jG dC dI ca base U ∧ jK7 dC dI ca base U ∧ G0 r0 = some (1, 1) ∧ G0 ed = some (221, n_ed) ∧ jP (dC, dI) G0 H0 [(r0, 1, 1, .ref ed), (r0, 1, 2, .int lz)] ∧ jIs (dC, dI) G0 H0 [(jFl, jLs dC dI ca G0 3 none wl)] ∧ H0.size + 1 ≤ LC ∧ jTot H0 + 40 ≤ LS ∧ lz.toInt = n_ed ∧ lz.toInt ≤ 24)) (jQx (S := Nat × Nat × jT) (fun v u => v = .ref u.1 ∧ lz.toInt + 1 ≤ u.2.1 ∧ u.2.1 ≤ 40) (fun u t => jRa (dC, dI) B base G0 u.2.2 EJx4a65c_grow_d5877L1 H0 (1) (40) [(r0, 1, 1, .ref u.1)] t.heap ∧ u.2.2 u.1 = some (221, u.2.1) ∧ (jNk [0, 1, 2, 3, 4, 5, 6, 7, 8, 9, 10, 11, 12, 13, 14, 15, 16, 17, 175]) G0 u.2.2 ∧ jIs (dC, dI) u.2.2 t.heap [(jFl, jLs dC dI ca u.2.2 3 none wl)]) (jA base)) (LC - H0.size) (LS - jTot H0) (jA base) := by
  refine Met.ofW (cc := cJx4a65c_grow_d5877) (maxL := 1) (ret := (some (.array (.object "java/lang/Object")))) (by decide) rfl ?_
  intro p e s m args below meth c s₁ Bd hml hv
  obtain ⟨rfl, hH0, hX, hG, hK7, hg_r0, hg_ed, hP0, hI0, hLC0, hLS0, hp0, hp1⟩ := hv
  have hK := hG.1
  have hx := Bd.exec
  have hb := Bd.bytes
  have hr := Bd.returns
  have hts := atoms_spec (ws := (jw yJx4a65c_grow_d5877 cJx4a65c_grow_d5877 1 (some (.array (.object "java/lang/Object"))))) Bd.pre
  have htw : ∀ w ∈ jWl, w.before _ s = true := fun w h => hts w (List.mem_cons_of_mem _ h)
  have hown : s.vm.findClass RJx4a65c = some m.cls := findClass_of_methodNamed Bd.named
  have hlocks := Bd.notSynchronized
  obtain ⟨Q, hQ⟩ : ∃ Q, Q = MQ below (jQx (S := Nat × Nat × jT) (fun v u => v = .ref u.1 ∧ lz.toInt + 1 ≤ u.2.1 ∧ u.2.1 ≤ 40) (fun u t => jRa (dC, dI) B base G0 u.2.2 EJx4a65c_grow_d5877L1 H0 (1) (40) [(r0, 1, 1, .ref u.1)] t.heap ∧ u.2.2 u.1 = some (221, u.2.1) ∧ (jNk [0, 1, 2, 3, 4, 5, 6, 7, 8, 9, 10, 11, 12, 13, 14, 15, 16, 17, 175]) G0 u.2.2 ∧ jIs (dC, dI) u.2.2 t.heap [(jFl, jLs dC dI ca u.2.2 3 none wl)]) (jA base)) ([.ref r0] : List Value).toArray s (LC - H0.size) (LS - jTot H0) (jA base) := ⟨_, rfl⟩
  rw [← hQ]
  have hl := lv_entry ([.ref r0]) (n := 1) (Nat.le_of_ble_eq_true rfl)
  rw [lg_entry_eq]
  generalize (lg_sl ([.ref r0]) ++ List.replicate (1 - (lg_sl ([.ref r0])).length) Slot.unset).toArray = ls at hl ⊢
  have hl : lv_has ls 1 [(0, .ref r0)] := hl
  generalize hR : (headSpec (jw yJx4a65c_grow_d5877 cJx4a65c_grow_d5877 1 (some (.array (.object "java/lang/Object")))) ({ frames := 4, cells := LC - H0.size, slots := LS - jTot H0, locals := 128 })).room = R
  subst hH0
  have hh : jSt (dC, dI) B base G0 G0 EJx4a65c_grow_d5877L1 s.heap 0 0 [(r0, 1, 1, .ref ed), (r0, 1, 2, .int lz)] [] [(jFl, jLs dC dI ca G0 3 none wl)] s.heap [] := jSt.start hX hP0 jMc.nil hI0
  clear hX hP0
  have hk0 : (0 : Int32).toInt = 0 := by decide
  have hk1 : (1 : Int32).toInt = 1 := by decide
  have hly_1_2 := htw (u_lay RJx4a65c TJx4a65c 2) (jWc_wsJx4a65c0 _ (u_in_lay (by decide)))
  have hlk_48 := (htw (.fieldLink RJx4a65c 48 "java/util/ArrayList" "size" "I") (jWr_28 _ (List.mem_of_getElem? (i := 2) rfl)))
  have hbs : base ≤ s.heap.size := Nat.le_of_lt (Nat.lt_of_le_of_lt (hh.ab hg_r0).1 (hh.ab hg_r0).2)
  have hRc : R.cells = LC - s.heap.size := by rw [← hR]; rfl
  have hRs : R.slots = LS - jTot s.heap := by rw [← hR]; rfl
  refine lv_aload_n hx hb dJx4a65c_grow_d5877_0 rfl (lv_at hl 0 rfl) ?_
  refine lv_aload_n hx hb dJx4a65c_grow_d5877_1 rfl (lv_at hl 0 rfl) ?_
  refine j7_read hx hb hown hK (C := RJx4a65c) (T := TJx4a65c) (N := 3) rfl hly_1_2 hlk_48 (hh.at 1 rfl) dJx4a65c_grow_d5877_2 ?_
  refine lv_iconst (v := 1) hx hb dJx4a65c_grow_d5877_5 (by decide) ?_
  refine lv_iadd hx hb dJx4a65c_grow_d5877_6 ?_
  refine lv_topi (fun z_1 ez_1 => ?_)
  have hz_1 : z_1.toInt = lz.toInt + 1 := by rw [ez_1]; exact jb_iadd2 (rfl) ((by decide)) (by omega)
  have hsz_2 := hh.2.2.2.2.2.1
  have htt_2 := hh.2.2.2.2.2.2.1
  refine W.room (fun hrc_2 hrs_2 => ?_)
  refine j_callx (A0 := jA base) (H0 := s.heap) (va_runV (As := [.int z_1]) (rest := []) ⟨hx, hb, hml, hown, hts⟩ (uJx4a65c_grow_92f84L1 l dC dI ca base B hB hAp hB1 hB3 hB221 G0 s.heap r0 z_1 ed n_ed lz wl LC LS) (cwV 1 hts (jgV (jWr_33 _ (List.mem_of_getElem? (i := 21) rfl)) (jWr_33 _ (List.mem_of_getElem? (i := 22) rfl)) (jWr_33 _ (List.mem_of_getElem? (i := 23) rfl)) (jWr_2 _ (List.mem_of_getElem? (i := 13) rfl)) (jWr_34 _ (List.mem_of_getElem? (i := 0) rfl))) rfl rfl rfl (by decide +kernel) ⟨by rw [← hR]; exact Nat.le_of_ble_eq_true rfl, by rw [← hR]; exact Nat.le_of_ble_eq_true rfl⟩) ⟨fun a U g mk q => by obtain ⟨q0, q1, q2, qK, q10, q11, q12, q13, q14, q15⟩ := q; exact ⟨q0, q1, q2, jG.calling g mk a qK, (jK7.calling g mk a q10), q11, q12, q13, q14, q15⟩, hh.recv (C := RJx4a65c) (T := TJx4a65c) (N := 3) hB1 rfl (by decide) hg_r0 hK, fun U hU hW => ⟨rfl, hU, hh.2.1, hG.step hW hU hh.1, (hK7.step hW hU hh.1), hg_r0, hg_ed, (hh.2.2.1.sub (L1 := [(r0, 1, 1, .ref ed), (r0, 1, 2, .int lz)]) [0, 1] rfl), (hh.2.2.2.2.2.2.2.2.sub (L1 := [(jFl, jLs dC dI ca G0 3 none wl)]) [0] rfl), by first | omega | (refine ⟨?_, ?_, ?_⟩ <;> (first | omega | rfl | assumption | decide | exact Or.inl rfl | exact Or.inr rfl | (simp only; omega)))⟩⟩ rfl rfl hl.1 rfl (lv_room (Nat.le_of_ble_eq_true rfl)) dJx4a65c_grow_d5877_7 ⟨by rw [hRc]; omega, by rw [hRs]; omega⟩) hh.1 (fun q _ h => h) (fun q h => h) (fun r_3 u_2 t_2 H_2 locs_2 ht_2 hvm_2 hr_3 hb_2 hz_2 hk_2 hS_2 => ?_)
  rw [ht_2] at hb_2
  obtain ⟨qa_2, m_qa_2, G_2⟩ := u_2
  simp only at hb_2
  obtain ⟨⟨hb_21, hb_22, hb_23, hb_24, hb_25, hb_26⟩, hgq_2_0, hN_2, hbE_2⟩ := hb_2
  have hh_2 : jSt (dC, dI) B base G0 G_2 EJx4a65c_grow_d5877L1 s.heap (0 + (1)) (0 + (40)) [(r0, 1, 1, .ref qa_2), (r0, 1, 2, .int lz)] [] [] H_2 locs_2 := (hh.callG hb_21 hb_22 hb_23 hb_24 hb_25 hS_2 rfl (L1 := [(r0, 1, 2, .int lz)]) [1] rfl rfl (M1 := []) [] rfl rfl (I1 := []) [] rfl rfl).more hb_26
  have hNn_2 : (jNk [0, 1, 2, 3, 4, 5, 6, 7, 8, 9, 10, 11, 12, 13, 14, 15, 16, 17, 175]) G0 G_2 := (jNk.rf).tr hN_2
  have hg_4 := hb_22 _ _ hg_r0
  have hh_5 := hh_2.addIs hbE_2
  obtain ⟨rfl, hr_3p⟩ := hr_3
  try simp only at hr_3p
  obtain ⟨hr_3p_0, hr_3p_1⟩ := hr_3p
  have hsz_6 := hh_5.2.2.2.2.2.1
  have htt_6 := hh_5.2.2.2.2.2.2.1
  refine W.room (fun hrc_6 hrs_6 => ?_)
  refine W.widen (k := LC - s.heap.size) (n := LS - jTot s.heap) (by omega) (by omega) ?_
  rw [hQ]
  exact W.aret (v := .ref qa_2) hx hb hr (Or.inr ⟨_, rfl⟩) (Or.inr ⟨_, rfl⟩) (fun t ht hW => ⟨⟨.ref qa_2, (qa_2, m_qa_2, G_2), rfl, ⟨rfl, by (try dsimp only); exact ⟨(by first | omega | rfl | assumption | fail), (by first | omega | rfl | assumption | fail)⟩⟩, ⟨hh_5.ra (by first | (simp only; omega) | omega) (by first | (simp only; omega) | omega) (M1 := [(r0, 1, 1, .ref qa_2)]) [0] rfl ht, hgq_2_0, hNn_2, by rw [ht]; exact hh_5.2.2.2.2.2.2.2.2.sub (L1 := [(jFl, jLs dC dI ca G_2 3 none wl)]) [0] rfl⟩⟩, by rw [ht]; try exact hh_5.1.1, fun q h9 hq => by rw [ht]; try exact hh_5.1.2.1 q h9 hq⟩) hh_5.1.2.2 dJx4a65c_grow_d5877_10
set_option maxHeartbeats 4000000 in
set_option maxRecDepth 20000 in
theorem uJx4a65c_add_72be8E1 (l : Launch) (dC : Nat → ClassId) (dI : Nat → Nat → Nat) (ca : Nat → ClassId) (base : Nat) (B : jF) (hB : jBok B) (hAp : jAp (dC, dI)) (hB1 : ∀ n G a H, B 1 n G a H ↔ jOb (dC, dI) 1 3 (F1 n G) a H) (hB3 : ∀ n G a H, B 3 n G a H ↔ jOb (dC, dI) 3 17 (F3 n G) a H) (hB221 : ∀ n G a H, B 221 n G a H ↔ jAq (dC, dI) (ca 9) (jQn 3 0) n G a H) (G0 : jT) (H0 : Heap) (r0 : Nat) (r1 : Nat) (a3 : Int32) (lz : Int32) (wl : jWl9) (LC LS : Nat) : Met l yJx4a65c_add_72be8 (jw yJx4a65c_add_72be8 cJx4a65c_add_72be8 4 none) ({ frames := 5, cells := LC - H0.size, slots := LS - jTot H0, locals := 148 }) (va_Pc [.ref r0, .ref r1, .ref (dI 99 0), .int a3] (fun U => U.heap = H0 ∧ jX B base G0 [] H0 ∧ jG dC dI ca base U ∧ jK7 dC dI ca base U ∧ G0 r0 = some (1, 1) ∧ G0 r1 = some (3, 0) ∧ jP (dC, dI) G0 H0 [(r0, 1, 1, .ref (dI 99 0)), (r0, 1, 2, .int lz)] ∧ jIs (dC, dI) G0 H0 [(jFl, jLs dC dI ca G0 3 none wl)] ∧ H0.size + 1 ≤ LC ∧ jTot H0 + 40 ≤ LS ∧ a3.toInt = lz.toInt ∧ lz.toInt = 0)) (va_Qv (S := Int32 × jT) (fun u => u.1.toInt = lz.toInt + 1) (fun u t => jRa (dC, dI) B base G0 u.2 EJx4a65c_add_72be8E1 H0 (1) (40) [(r0, 1, 2, .int u.1)] t.heap ∧ (jNk [0, 1, 2, 3, 4, 5, 6, 7, 8, 9, 10, 11, 12, 13, 14, 15, 16, 17, 175]) G0 u.2 ∧ jIs (dC, dI) u.2 t.heap [(jFl, jLs dC dI ca u.2 3 none (wl.s1 (wl.1 + 1) (jUf wl.2.1 (wl.1).toNat (some r1))))]) (jA base)) (LC - H0.size) (LS - jTot H0) (jA base) := by
  refine Met.ofW (cc := cJx4a65c_add_72be8) (maxL := 4) (ret := none) (by decide) rfl ?_
  intro p e s m args below meth c s₁ Bd hml hv
  obtain ⟨rfl, hH0, hX, hG, hK7, hg_r0, hg_r1, hP0, hI0, hLC0, hLS0, hp0, hp1⟩ := hv
  have hK := hG.1
  have hx := Bd.exec
  have hb := Bd.bytes
  have hr := Bd.returns
  have hts := atoms_spec (ws := (jw yJx4a65c_add_72be8 cJx4a65c_add_72be8 4 none)) Bd.pre
  have htw : ∀ w ∈ jWl, w.before _ s = true := fun w h => hts w (List.mem_cons_of_mem _ h)
  have hown : s.vm.findClass RJx4a65c = some m.cls := findClass_of_methodNamed Bd.named
  have hlocks := Bd.notSynchronized
  obtain ⟨Q, hQ⟩ : ∃ Q, Q = MQ below (va_Qv (S := Int32 × jT) (fun u => u.1.toInt = lz.toInt + 1) (fun u t => jRa (dC, dI) B base G0 u.2 EJx4a65c_add_72be8E1 H0 (1) (40) [(r0, 1, 2, .int u.1)] t.heap ∧ (jNk [0, 1, 2, 3, 4, 5, 6, 7, 8, 9, 10, 11, 12, 13, 14, 15, 16, 17, 175]) G0 u.2 ∧ jIs (dC, dI) u.2 t.heap [(jFl, jLs dC dI ca u.2 3 none (wl.s1 (wl.1 + 1) (jUf wl.2.1 (wl.1).toNat (some r1))))]) (jA base)) ([.ref r0, .ref r1, .ref (dI 99 0), .int a3] : List Value).toArray s (LC - H0.size) (LS - jTot H0) (jA base) := ⟨_, rfl⟩
  rw [← hQ]
  have hl := lv_entry ([.ref r0, .ref r1, .ref (dI 99 0), .int a3]) (n := 4) (Nat.le_of_ble_eq_true rfl)
  rw [lg_entry_eq]
  generalize (lg_sl ([.ref r0, .ref r1, .ref (dI 99 0), .int a3]) ++ List.replicate (4 - (lg_sl ([.ref r0, .ref r1, .ref (dI 99 0), .int a3])).length) Slot.unset).toArray = ls at hl ⊢
  have hl : lv_has ls 4 [(0, .ref r0), (1, .ref r1), (2, .ref (dI 99 0)), (3, .int a3)] := hl
  generalize hR : (headSpec (jw yJx4a65c_add_72be8 cJx4a65c_add_72be8 4 none) ({ frames := 5, cells := LC - H0.size, slots := LS - jTot H0, locals := 148 })).room = R
  subst hH0
  have hh : jSt (dC, dI) B base G0 G0 EJx4a65c_add_72be8E1 s.heap 0 0 [(r0, 1, 1, .ref (dI 99 0)), (r0, 1, 2, .int lz)] [] [(jFl, jLs dC dI ca G0 3 none wl)] s.heap [] := jSt.start hX hP0 jMc.nil hI0
  clear hX hP0
  have hk0 : (0 : Int32).toInt = 0 := by decide
  have hk1 : (1 : Int32).toInt = 1 := by decide
  have hly_1_2 := htw (u_lay RJx4a65c TJx4a65c 2) (jWc_wsJx4a65c0 _ (u_in_lay (by decide)))
  have hlk_48 := (htw (.fieldLink RJx4a65c 48 "java/util/ArrayList" "size" "I") (jWr_28 _ (List.mem_of_getElem? (i := 2) rfl)))
  have hrg_a3 := jb_rng a3
  have hbs : base ≤ s.heap.size := Nat.le_of_lt (Nat.lt_of_le_of_lt (hh.ab hg_r0).1 (hh.ab hg_r0).2)
  have hRc : R.cells = LC - s.heap.size := by rw [← hR]; rfl
  have hRs : R.slots = LS - jTot s.heap := by rw [← hR]; rfl
  refine lv_iload_n hx hb dJx4a65c_add_72be8_0 rfl (lv_at hl 3 rfl) ?_
  refine lv_aload_n hx hb dJx4a65c_add_72be8_1 rfl (lv_at hl 2 rfl) ?_
  refine va_tlen hx hb hK7.2.2.2.2.2.2.2 hh.1 (v := Int32.ofNat 0) rfl dJx4a65c_add_72be8_2 ?_
  refine lv_topi (fun z_1 ez_1 => ?_)
  have hz_1 : z_1.toInt = 0 := by rw [ez_1]; rfl
  refine lv_icmp_ne (tgt := 11) hx hb dJx4a65c_add_72be8_3 (by decide) (fun c_2 => ?_) (fun c_2 => ?_)
  · skip
    have c_2' : a3.toInt ≠ z_1.toInt := jb_ne (rfl) (rfl) c_2
    exact absurd c_2' (by omega)
  · skip
    have c_2' : a3.toInt = z_1.toInt := jb_ne_n (rfl) (rfl) c_2
    refine lv_aload_n hx hb dJx4a65c_add_72be8_6 rfl (lv_at hl 0 rfl) ?_
    have hsz_3 := hh.2.2.2.2.2.1
    have htt_3 := hh.2.2.2.2.2.2.1
    refine W.room (fun hrc_3 hrs_3 => ?_)
    refine j_callx (A0 := jA base) (H0 := s.heap) (va_runV (As := []) (rest := []) ⟨hx, hb, hml, hown, hts⟩ (uJx4a65c_grow_d5877E1 l dC dI ca base B hB hAp hB1 hB3 hB221 G0 s.heap r0 lz wl LC LS) (cwV 0 hts (jgV (jWr_33 _ (List.mem_of_getElem? (i := 17) rfl)) (jWr_33 _ (List.mem_of_getElem? (i := 18) rfl)) (jWr_33 _ (List.mem_of_getElem? (i := 19) rfl)) (jWr_2 _ (List.mem_of_getElem? (i := 13) rfl)) (jWr_33 _ (List.mem_of_getElem? (i := 20) rfl))) rfl rfl rfl (by decide +kernel) ⟨by rw [← hR]; exact Nat.le_of_ble_eq_true rfl, by rw [← hR]; exact Nat.le_of_ble_eq_true rfl⟩) ⟨fun a U g mk q => by obtain ⟨q0, q1, q2, qK, q10, q11, q12, q13, q14⟩ := q; exact ⟨q0, q1, q2, jG.calling g mk a qK, (jK7.calling g mk a q10), q11, q12, q13, q14⟩, hh.recv (C := RJx4a65c) (T := TJx4a65c) (N := 3) hB1 rfl (by decide) hg_r0 hK, fun U hU hW => ⟨rfl, hU, hh.2.1, hG.step hW hU hh.1, (hK7.step hW hU hh.1), hg_r0, (hh.2.2.1.sub (L1 := [(r0, 1, 1, .ref (dI 99 0)), (r0, 1, 2, .int lz)]) [0, 1] rfl), (hh.2.2.2.2.2.2.2.2.sub (L1 := [(jFl, jLs dC dI ca G0 3 none wl)]) [0] rfl), by first | omega | rfl | assumption | decide | exact Or.inl rfl | exact Or.inr rfl | (simp only; omega)⟩⟩ rfl rfl hl.1 rfl (lv_room (Nat.le_of_ble_eq_true rfl)) dJx4a65c_add_72be8_7 ⟨by rw [hRc]; omega, by rw [hRs]; omega⟩) hh.1 (fun q _ h => h) (fun q h => h) (fun r_4 u_3 t_3 H_3 locs_3 ht_3 hvm_3 hr_4 hb_3 hz_3 hk_3 hS_3 => ?_)
    rw [ht_3] at hb_3
    obtain ⟨qa_3, m_qa_3, G_3⟩ := u_3
    simp only at hb_3
    obtain ⟨⟨hb_31, hb_32, hb_33, hb_34, hb_35, hb_36⟩, hgq_3_0, hN_3, hbE_3⟩ := hb_3
    have hh_3 : jSt (dC, dI) B base G0 G_3 EJx4a65c_add_72be8E1 s.heap (0 + (1)) (0 + (40)) [(r0, 1, 1, .ref qa_3), (r0, 1, 2, .int lz)] [] [] H_3 locs_3 := (hh.callG hb_31 hb_32 hb_33 hb_34 hb_35 hS_3 rfl (L1 := [(r0, 1, 2, .int lz)]) [1] rfl rfl (M1 := []) [] rfl rfl (I1 := []) [] rfl rfl).more hb_36
    have hNn_3 : (jNk [0, 1, 2, 3, 4, 5, 6, 7, 8, 9, 10, 11, 12, 13, 14, 15, 16, 17, 175]) G0 G_3 := (jNk.rf).tr hN_3
    have hg_5 := hb_32 _ _ hg_r0
    have hg_6 := hb_32 _ _ hg_r1
    have hh_7 := hh_3.addIs hbE_3
    obtain ⟨rfl, hr_4p⟩ := hr_4
    try simp only at hr_4p
    refine lv_astore_n (lv' := [(2, .ref qa_3), (0, .ref r0), (1, .ref r1), (3, .int a3)]) hx hb dJx4a65c_add_72be8_10 rfl hl (by decide) rfl (fun ls hl => ?_)
    obtain ⟨lz_8, lx_8, hl1_8, hl2_8, hl3_8, hl4_8⟩ := jLs.at (hh_7.iv 0 rfl) hg_5
    obtain rfl : lz = lz_8 := Value.int.inj (jf.uniq (hh_7.at 1 rfl) hl1_8)
    have hl3_8 : 0 ≤ lz.toInt ∧ lz.toInt ≤ 3 := hl3_8
    obtain rfl : qa_3 = lx_8 := Value.ref.inj (jf.uniq (hh_7.at 0 rfl) hl2_8)
    rcases hl4_8 with ⟨hl9_8, hl5_8, hl0_8, hlE_8⟩ | ⟨lm_8, lf_8, hg_lx_8, hlm_8, hl6_8, hl7_8, hl8_8, hlw_8, hlY_8⟩
    · skip
      exact absurd (show base ≤ dI 99 0 by rw [← hl9_8]; exact (hh_7.ab hgq_3_0).1) (va_T.out hK7.2.2.2.2.2.2.2)
    · skip
      obtain rfl : m_qa_3 = lm_8 := by have h9 := Option.some.inj (hgq_3_0.symm.trans hg_lx_8); exact congrArg Prod.snd h9
      have hd_9 := jLs.less (hh_7.iv 0 rfl) r0
      have hh_10 := hh_7.sub (L1 := [(r0, 1, 1, .ref qa_3), (r0, 1, 2, .int lz)]) [0, 1] rfl (M1 := []) [] rfl (I1 := []) [] rfl
      clear hh_7
      have hh_11 := hh_10.addI (jLs.ie hd_9)
      clear hh_10
      have hh_12 := hh_11.addI (jQc.ie hl7_8 hg_lx_8 (by decide) (by decide))
      clear hh_11
      refine lv_aload_n hx hb dJx4a65c_add_72be8_11 rfl (lv_at hl 0 rfl) ?_
      refine lv_iload_n hx hb dJx4a65c_add_72be8_12 rfl (lv_at hl 3 rfl) ?_
      refine lv_aload_n hx hb dJx4a65c_add_72be8_13 rfl (lv_at hl 2 rfl) ?_
      have hd_14 := hh_12.iv 0 rfl
      have hd_15 := hh_12.iv 1 rfl
      have hh_17 := hh_12.sub (L1 := [(r0, 1, 1, .ref qa_3), (r0, 1, 2, .int lz)]) [0, 1] rfl (M1 := []) [] rfl (I1 := []) [] rfl
      clear hh_12
      refine j7_qastO hx hb hK hK7.1 hh_17 hB hB221 0 rfl (by decide) (by decide) rfl rfl rfl hgq_3_0 (x := a3.toInt) (rfl) (by omega) hB3 (T := TX1) (N := 17) rfl (by decide) hg_6 hK7.2.2.1.1.1 (Or.inr ⟨_, rfl, hg_6⟩) hd_14 dJx4a65c_add_72be8_14 (fun H_13 locs_13 fq_16 hv_13 ho_13 hq_13 hr_13 hh_13 => ?_)
      clear hh_17
      have hd_15n := jLs.arr hd_15 hg_5 hgq_3_0 hr_13
      have hh_18 := hh_13.addI (jLs.ie hd_15n)
      clear hh_13
      have hh_19 := hh_18.addI (hq_13.ie hgq_3_0 (by decide) (by decide))
      clear hh_18
      clear hd_14 hd_15 hd_15n hr_13
      refine lv_aload_n hx hb dJx4a65c_add_72be8_15 rfl (lv_at hl 1 rfl) ?_
      refine lv_iload_n hx hb dJx4a65c_add_72be8_16 rfl (lv_at hl 3 rfl) ?_
      refine lv_iconst (v := 1) hx hb dJx4a65c_add_72be8_17 (by decide) ?_
      refine lv_iadd hx hb dJx4a65c_add_72be8_18 ?_
      refine lv_topi (fun z_20 ez_20 => ?_)
      have hz_20 : z_20.toInt = a3.toInt + 1 := by rw [ez_20]; exact jb_iadd2 (rfl) ((by decide)) (by omega)
      have hd_22 := hh_19.iv 1 rfl
      have hh_23 := hh_19.sub (L1 := [(r0, 1, 1, .ref qa_3), (r0, 1, 2, .int lz)]) [0, 1] rfl (M1 := []) [] rfl (I1 := [([(221, 0)], jQc dC dI (ca 9) qa_3 m_qa_3 fq_16)]) [0] rfl
      clear hh_19
      refine j7_putX hx hb hown hK hh_23 hB hAp hB1 (C := RJx4a65c) (T := TJx4a65c) (N := 3) rfl (by decide) hg_5 (i := 2) (by decide) hly_1_2 rfl hlk_48 rfl (ty := .int) (v := .int z_20) (by decide +kernel) rfl rfl (⟨_, rfl, by omega, by omega⟩) rfl (L1 := [(r0, 1, 1, .ref qa_3)]) [0] rfl rfl rfl dJx4a65c_add_72be8_19 (fun H_21 locs_21 hr_21 hh_21 => ?_)
      clear hh_23
      have hd_22n := jLs.fld hd_22 hg_5 hr_21
      have hh_24 := hh_21.addI (jLs.ie hd_22n)
      clear hh_21
      clear hd_22 hd_22n hr_21
      have hd_25 := jLs.full (wn := (wl.s1 (wl.1 + 1) (jUf wl.2.1 (wl.1).toNat (some r1)))) (hh_24.iv 0 rfl) hg_5 ⟨_, _, hh_24.at 0 rfl, hh_24.at 1 rfl, ⟨by omega, (show _ ≤ (3 : Int) by omega)⟩, Or.inr ⟨_, _, hgq_3_0, by omega, by omega, hh_24.iv 1 rfl, jAd.put hl8_8 (by omega) (by omega) (by omega) (by omega) hv_13 ho_13, jWk.put hlw_8 (by omega) (by omega) (by omega) (by omega) hv_13 ho_13, (fun q => absurd rfl q)⟩⟩ ⟨fun q => absurd rfl q, fun _ => rfl, fun _ => rfl⟩
      have hh_26 := hh_24.sub (L1 := [(r0, 1, 2, .int z_20), (r0, 1, 1, .ref qa_3)]) [0, 1] rfl (M1 := []) [] rfl (I1 := [([(221, 0)], jQc dC dI (ca 9) qa_3 m_qa_3 fq_16)]) [1] rfl
      clear hh_24
      have hh_27 := hh_26.addI (jLs.ie hd_25)
      clear hh_26
      have hsz_28 := hh_27.2.2.2.2.2.1
      have htt_28 := hh_27.2.2.2.2.2.2.1
      refine W.room (fun hrc_28 hrs_28 => ?_)
      refine W.widen (k := LC - s.heap.size) (n := LS - jTot s.heap) (by omega) (by omega) ?_
      rw [hQ]
      exact W.vret hx hb hr (fun t ht hW => ⟨⟨(z_20, G_3), rfl, by (try dsimp only); first | omega | rfl | assumption | fail, ⟨hh_27.ra (by first | (simp only; omega) | omega) (by first | (simp only; omega) | omega) (M1 := [(r0, 1, 2, .int z_20)]) [0] rfl ht, hNn_3, by rw [ht]; exact hh_27.2.2.2.2.2.2.2.2.sub (L1 := [(jFl, jLs dC dI ca G_3 3 none (wl.s1 (wl.1 + 1) (jUf wl.2.1 (wl.1).toNat (some r1))))]) [0] rfl⟩⟩, by rw [ht]; try exact hh_27.1.1, fun q h9 hq => by rw [ht]; try exact hh_27.1.2.1 q h9 hq⟩) hh_27.1.2.2 dJx4a65c_add_72be8_22
set_option maxHeartbeats 4000000 in
set_option maxRecDepth 20000 in
theorem uJx4a65c_add_72be8L1 (l : Launch) (dC : Nat → ClassId) (dI : Nat → Nat → Nat) (ca : Nat → ClassId) (base : Nat) (B : jF) (hB : jBok B) (hAp : jAp (dC, dI)) (hB1 : ∀ n G a H, B 1 n G a H ↔ jOb (dC, dI) 1 3 (F1 n G) a H) (hB3 : ∀ n G a H, B 3 n G a H ↔ jOb (dC, dI) 3 17 (F3 n G) a H) (hB221 : ∀ n G a H, B 221 n G a H ↔ jAq (dC, dI) (ca 9) (jQn 3 0) n G a H) (G0 : jT) (H0 : Heap) (r0 : Nat) (r1 : Nat) (r2 : Nat) (a3 : Int32) (n2 : Nat) (lz : Int32) (wl : jWl9) (LC LS : Nat) : Met l yJx4a65c_add_72be8 (jw yJx4a65c_add_72be8 cJx4a65c_add_72be8 4 none) ({ frames := 5, cells := LC - H0.size, slots := LS - jTot H0, locals := 148 }) (va_Pc [.ref r0, .ref r1, .ref r2, .int a3] (fun U => U.heap = H0 ∧ jX B base G0 [] H0 ∧ jG dC dI ca base U ∧ jK7 dC dI ca base U ∧ G0 r0 = some (1, 1) ∧ G0 r1 = some (3, 0) ∧ G0 r2 = some (221, n2) ∧ jP (dC, dI) G0 H0 [(r0, 1, 1, .ref r2), (r0, 1, 2, .int lz)] ∧ jIs (dC, dI) G0 H0 [(jFl, jLs dC dI ca G0 3 none wl)] ∧ H0.size + 1 ≤ LC ∧ jTot H0 + 40 ≤ LS ∧ a3.toInt = lz.toInt ∧ 0 ≤ lz.toInt ∧ lz.toInt < 3 ∧ n2 ≤ 40)) (va_Qv (S := Int32 × jT) (fun u => u.1.toInt = lz.toInt + 1) (fun u t => jRa (dC, dI) B base G0 u.2 EJx4a65c_add_72be8L1 H0 (1) (40) [(r0, 1, 2, .int u.1)] t.heap ∧ (jNk [0, 1, 2, 3, 4, 5, 6, 7, 8, 9, 10, 11, 12, 13, 14, 15, 16, 17, 175]) G0 u.2 ∧ jIs (dC, dI) u.2 t.heap [(jFl, jLs dC dI ca u.2 3 none (wl.s1 (wl.1 + 1) (jUf wl.2.1 (wl.1).toNat (some r1))))]) (jA base)) (LC - H0.size) (LS - jTot H0) (jA base) := by
  refine Met.ofW (cc := cJx4a65c_add_72be8) (maxL := 4) (ret := none) (by decide) rfl ?_
  intro p e s m args below meth c s₁ Bd hml hv
  obtain ⟨rfl, hH0, hX, hG, hK7, hg_r0, hg_r1, hg_r2, hP0, hI0, hLC0, hLS0, hp0, hp1, hp2, hp3⟩ := hv
  have hK := hG.1
  have hx := Bd.exec
  have hb := Bd.bytes
  have hr := Bd.returns
  have hts := atoms_spec (ws := (jw yJx4a65c_add_72be8 cJx4a65c_add_72be8 4 none)) Bd.pre
  have htw : ∀ w ∈ jWl, w.before _ s = true := fun w h => hts w (List.mem_cons_of_mem _ h)
  have hown : s.vm.findClass RJx4a65c = some m.cls := findClass_of_methodNamed Bd.named
  have hlocks := Bd.notSynchronized
  obtain ⟨Q, hQ⟩ : ∃ Q, Q = MQ below (va_Qv (S := Int32 × jT) (fun u => u.1.toInt = lz.toInt + 1) (fun u t => jRa (dC, dI) B base G0 u.2 EJx4a65c_add_72be8L1 H0 (1) (40) [(r0, 1, 2, .int u.1)] t.heap ∧ (jNk [0, 1, 2, 3, 4, 5, 6, 7, 8, 9, 10, 11, 12, 13, 14, 15, 16, 17, 175]) G0 u.2 ∧ jIs (dC, dI) u.2 t.heap [(jFl, jLs dC dI ca u.2 3 none (wl.s1 (wl.1 + 1) (jUf wl.2.1 (wl.1).toNat (some r1))))]) (jA base)) ([.ref r0, .ref r1, .ref r2, .int a3] : List Value).toArray s (LC - H0.size) (LS - jTot H0) (jA base) := ⟨_, rfl⟩
  rw [← hQ]
  have hl := lv_entry ([.ref r0, .ref r1, .ref r2, .int a3]) (n := 4) (Nat.le_of_ble_eq_true rfl)
  rw [lg_entry_eq]
  generalize (lg_sl ([.ref r0, .ref r1, .ref r2, .int a3]) ++ List.replicate (4 - (lg_sl ([.ref r0, .ref r1, .ref r2, .int a3])).length) Slot.unset).toArray = ls at hl ⊢
  have hl : lv_has ls 4 [(0, .ref r0), (1, .ref r1), (2, .ref r2), (3, .int a3)] := hl
  generalize hR : (headSpec (jw yJx4a65c_add_72be8 cJx4a65c_add_72be8 4 none) ({ frames := 5, cells := LC - H0.size, slots := LS - jTot H0, locals := 148 })).room = R
  subst hH0
  have hh : jSt (dC, dI) B base G0 G0 EJx4a65c_add_72be8L1 s.heap 0 0 [(r0, 1, 1, .ref r2), (r0, 1, 2, .int lz)] [] [(jFl, jLs dC dI ca G0 3 none wl)] s.heap [] := jSt.start hX hP0 jMc.nil hI0
  clear hX hP0
  have hk0 : (0 : Int32).toInt = 0 := by decide
  have hk1 : (1 : Int32).toInt = 1 := by decide
  have hly_1_2 := htw (u_lay RJx4a65c TJx4a65c 2) (jWc_wsJx4a65c0 _ (u_in_lay (by decide)))
  have hlk_48 := (htw (.fieldLink RJx4a65c 48 "java/util/ArrayList" "size" "I") (jWr_28 _ (List.mem_of_getElem? (i := 2) rfl)))
  have hrg_a3 := jb_rng a3
  have hbs : base ≤ s.heap.size := Nat.le_of_lt (Nat.lt_of_le_of_lt (hh.ab hg_r0).1 (hh.ab hg_r0).2)
  have hRc : R.cells = LC - s.heap.size := by rw [← hR]; rfl
  have hRs : R.slots = LS - jTot s.heap := by rw [← hR]; rfl
  refine lv_iload_n hx hb dJx4a65c_add_72be8_0 rfl (lv_at hl 3 rfl) ?_
  refine lv_aload_n hx hb dJx4a65c_add_72be8_1 rfl (lv_at hl 2 rfl) ?_
  refine j7_qlen hx hb hK7.1 hh hB221 0 rfl (by decide) hg_r2 (by omega) dJx4a65c_add_72be8_2 (fun z_1 hz_1 => ?_)
  refine lv_icmp_ne (tgt := 11) hx hb dJx4a65c_add_72be8_3 (by decide) (fun c_2 => ?_) (fun c_2 => ?_)
  · skip
    have c_2' : a3.toInt ≠ z_1.toInt := jb_ne (rfl) (rfl) c_2
    obtain ⟨lz_3, lx_3, hl1_3, hl2_3, hl3_3, hl4_3⟩ := jLs.at (hh.iv 0 rfl) hg_r0
    obtain rfl : lz = lz_3 := Value.int.inj (jf.uniq (hh.at 1 rfl) hl1_3)
    have hl3_3 : 0 ≤ lz.toInt ∧ lz.toInt ≤ 3 := hl3_3
    obtain rfl : r2 = lx_3 := Value.ref.inj (jf.uniq (hh.at 0 rfl) hl2_3)
    rcases hl4_3 with ⟨hl9_3, hl5_3, hl0_3, hlE_3⟩ | ⟨lm_3, lf_3, hg_lx_3, hlm_3, hl6_3, hl7_3, hl8_3, hlw_3, hlY_3⟩
    · skip
      exact absurd (show base ≤ dI 99 0 by rw [← hl9_3]; exact (hh.ab hg_r2).1) (va_T.out hK7.2.2.2.2.2.2.2)
    · skip
      obtain rfl : n2 = lm_3 := by have h9 := Option.some.inj (hg_r2.symm.trans hg_lx_3); exact congrArg Prod.snd h9
      have hd_4 := jLs.less (hh.iv 0 rfl) r0
      have hh_5 := hh.sub (L1 := [(r0, 1, 1, .ref r2), (r0, 1, 2, .int lz)]) [0, 1] rfl (M1 := []) [] rfl (I1 := []) [] rfl
      clear hh
      have hh_6 := hh_5.addI (jLs.ie hd_4)
      clear hh_5
      have hh_7 := hh_6.addI (jQc.ie hl7_3 hg_lx_3 (by decide) (by decide))
      clear hh_6
      refine lv_aload_n hx hb dJx4a65c_add_72be8_11 rfl (lv_at hl 2 rfl) ?_
      refine lv_iload_n hx hb dJx4a65c_add_72be8_12 rfl (lv_at hl 3 rfl) ?_
      refine lv_aload_n hx hb dJx4a65c_add_72be8_13 rfl (lv_at hl 1 rfl) ?_
      have hd_9 := hh_7.iv 0 rfl
      have hd_10 := hh_7.iv 1 rfl
      have hh_12 := hh_7.sub (L1 := [(r0, 1, 1, .ref r2), (r0, 1, 2, .int lz)]) [0, 1] rfl (M1 := []) [] rfl (I1 := []) [] rfl
      clear hh_7
      refine j7_qastO hx hb hK hK7.1 hh_12 hB hB221 0 rfl (by decide) (by decide) rfl rfl rfl hg_r2 (x := a3.toInt) (rfl) (by omega) hB3 (T := TX1) (N := 17) rfl (by decide) hg_r1 hK7.2.2.1.1.1 (Or.inr ⟨_, rfl, hg_r1⟩) hd_9 dJx4a65c_add_72be8_14 (fun H_8 locs_8 fq_11 hv_8 ho_8 hq_8 hr_8 hh_8 => ?_)
      clear hh_12
      have hd_10n := jLs.arr hd_10 hg_r0 hg_r2 hr_8
      have hh_13 := hh_8.addI (jLs.ie hd_10n)
      clear hh_8
      have hh_14 := hh_13.addI (hq_8.ie hg_r2 (by decide) (by decide))
      clear hh_13
      clear hd_9 hd_10 hd_10n hr_8
      refine lv_aload_n hx hb dJx4a65c_add_72be8_15 rfl (lv_at hl 0 rfl) ?_
      refine lv_iload_n hx hb dJx4a65c_add_72be8_16 rfl (lv_at hl 3 rfl) ?_
      refine lv_iconst (v := 1) hx hb dJx4a65c_add_72be8_17 (by decide) ?_
      refine lv_iadd hx hb dJx4a65c_add_72be8_18 ?_
      refine lv_topi (fun z_15 ez_15 => ?_)
      have hz_15 : z_15.toInt = a3.toInt + 1 := by rw [ez_15]; exact jb_iadd2 (rfl) ((by decide)) (by omega)
      have hd_17 := hh_14.iv 1 rfl
      have hh_18 := hh_14.sub (L1 := [(r0, 1, 1, .ref r2), (r0, 1, 2, .int lz)]) [0, 1] rfl (M1 := []) [] rfl (I1 := [([(221, 0)], jQc dC dI (ca 9) r2 n2 fq_11)]) [0] rfl
      clear hh_14
      refine j7_putX hx hb hown hK hh_18 hB hAp hB1 (C := RJx4a65c) (T := TJx4a65c) (N := 3) rfl (by decide) hg_r0 (i := 2) (by decide) hly_1_2 rfl hlk_48 rfl (ty := .int) (v := .int z_15) (by decide +kernel) rfl rfl (⟨_, rfl, by omega, by omega⟩) rfl (L1 := [(r0, 1, 1, .ref r2)]) [0] rfl rfl rfl dJx4a65c_add_72be8_19 (fun H_16 locs_16 hr_16 hh_16 => ?_)
      clear hh_18
      have hd_17n := jLs.fld hd_17 hg_r0 hr_16
      have hh_19 := hh_16.addI (jLs.ie hd_17n)
      clear hh_16
      clear hd_17 hd_17n hr_16
      have hd_20 := jLs.full (wn := (wl.s1 (wl.1 + 1) (jUf wl.2.1 (wl.1).toNat (some r1)))) (hh_19.iv 0 rfl) hg_r0 ⟨_, _, hh_19.at 0 rfl, hh_19.at 1 rfl, ⟨by omega, (show _ ≤ (3 : Int) by omega)⟩, Or.inr ⟨_, _, hg_r2, by omega, by omega, hh_19.iv 1 rfl, jAd.put hl8_3 (by omega) (by omega) (by omega) (by omega) hv_8 ho_8, jWk.put hlw_3 (by omega) (by omega) (by omega) (by omega) hv_8 ho_8, (fun q => absurd rfl q)⟩⟩ ⟨fun q => absurd rfl q, fun _ => rfl, fun _ => rfl⟩
      have hh_21 := hh_19.sub (L1 := [(r0, 1, 2, .int z_15), (r0, 1, 1, .ref r2)]) [0, 1] rfl (M1 := []) [] rfl (I1 := [([(221, 0)], jQc dC dI (ca 9) r2 n2 fq_11)]) [1] rfl
      clear hh_19
      have hh_22 := hh_21.addI (jLs.ie hd_20)
      clear hh_21
      have hsz_23 := hh_22.2.2.2.2.2.1
      have htt_23 := hh_22.2.2.2.2.2.2.1
      refine W.room (fun hrc_23 hrs_23 => ?_)
      refine W.widen (k := LC - s.heap.size) (n := LS - jTot s.heap) (by omega) (by omega) ?_
      rw [hQ]
      exact W.vret hx hb hr (fun t ht hW => ⟨⟨(z_15, G0), rfl, by (try dsimp only); first | omega | rfl | assumption | fail, ⟨hh_22.ra (by first | (simp only; omega) | omega) (by first | (simp only; omega) | omega) (M1 := [(r0, 1, 2, .int z_15)]) [0] rfl ht, jNk.rf, by rw [ht]; exact hh_22.2.2.2.2.2.2.2.2.sub (L1 := [(jFl, jLs dC dI ca G0 3 none (wl.s1 (wl.1 + 1) (jUf wl.2.1 (wl.1).toNat (some r1))))]) [0] rfl⟩⟩, by rw [ht]; try exact hh_22.1.1, fun q h9 hq => by rw [ht]; try exact hh_22.1.2.1 q h9 hq⟩) hh_22.1.2.2 dJx4a65c_add_72be8_22
  · skip
    have c_2' : a3.toInt = z_1.toInt := jb_ne_n (rfl) (rfl) c_2
    refine lv_aload_n hx hb dJx4a65c_add_72be8_6 rfl (lv_at hl 0 rfl) ?_
    have hsz_24 := hh.2.2.2.2.2.1
    have htt_24 := hh.2.2.2.2.2.2.1
    refine W.room (fun hrc_24 hrs_24 => ?_)
    refine j_callx (A0 := jA base) (H0 := s.heap) (va_runV (As := []) (rest := []) ⟨hx, hb, hml, hown, hts⟩ (uJx4a65c_grow_d5877L1 l dC dI ca base B hB hAp hB1 hB3 hB221 G0 s.heap r0 r2 n2 lz wl LC LS) (cwV 0 hts (jgV (jWr_33 _ (List.mem_of_getElem? (i := 17) rfl)) (jWr_33 _ (List.mem_of_getElem? (i := 18) rfl)) (jWr_33 _ (List.mem_of_getElem? (i := 19) rfl)) (jWr_2 _ (List.mem_of_getElem? (i := 13) rfl)) (jWr_33 _ (List.mem_of_getElem? (i := 20) rfl))) rfl rfl rfl (by decide +kernel) ⟨by rw [← hR]; exact Nat.le_of_ble_eq_true rfl, by rw [← hR]; exact Nat.le_of_ble_eq_true rfl⟩) ⟨fun a U g mk q => by obtain ⟨q0, q1, q2, qK, q10, q11, q12, q13, q14, q15⟩ := q; exact ⟨q0, q1, q2, jG.calling g mk a qK, (jK7.calling g mk a q10), q11, q12, q13, q14, q15⟩, hh.recv (C := RJx4a65c) (T := TJx4a65c) (N := 3) hB1 rfl (by decide) hg_r0 hK, fun U hU hW => ⟨rfl, hU, hh.2.1, hG.step hW hU hh.1, (hK7.step hW hU hh.1), hg_r0, hg_r2, (hh.2.2.1.sub (L1 := [(r0, 1, 1, .ref r2), (r0, 1, 2, .int lz)]) [0, 1] rfl), (hh.2.2.2.2.2.2.2.2.sub (L1 := [(jFl, jLs dC dI ca G0 3 none wl)]) [0] rfl), by first | omega | (refine ⟨?_, ?_⟩ <;> (first | omega | rfl | assumption | decide | exact Or.inl rfl | exact Or.inr rfl | (simp only; omega)))⟩⟩ rfl rfl hl.1 rfl (lv_room (Nat.le_of_ble_eq_true rfl)) dJx4a65c_add_72be8_7 ⟨by rw [hRc]; omega, by rw [hRs]; omega⟩) hh.1 (fun q _ h => h) (fun q h => h) (fun r_25 u_24 t_24 H_24 locs_24 ht_24 hvm_24 hr_25 hb_24 hz_24 hk_24 hS_24 => ?_)
    rw [ht_24] at hb_24
    obtain ⟨qa_24, m_qa_24, G_24⟩ := u_24
    simp only at hb_24
    obtain ⟨⟨hb_241, hb_242, hb_243, hb_244, hb_245, hb_246⟩, hgq_24_0, hN_24, hbE_24⟩ := hb_24
    have hh_24 : jSt (dC, dI) B base G0 G_24 EJx4a65c_add_72be8L1 s.heap (0 + (1)) (0 + (40)) [(r0, 1, 1, .ref qa_24), (r0, 1, 2, .int lz)] [] [] H_24 locs_24 := (hh.callG hb_241 hb_242 hb_243 hb_244 hb_245 hS_24 rfl (L1 := [(r0, 1, 2, .int lz)]) [1] rfl rfl (M1 := []) [] rfl rfl (I1 := []) [] rfl rfl).more hb_246
    have hNn_24 : (jNk [0, 1, 2, 3, 4, 5, 6, 7, 8, 9, 10, 11, 12, 13, 14, 15, 16, 17, 175]) G0 G_24 := (jNk.rf).tr hN_24
    have hg_26 := hb_242 _ _ hg_r0
    have hg_27 := hb_242 _ _ hg_r1
    have hg_28 := hb_242 _ _ hg_r2
    have hh_29 := hh_24.addIs hbE_24
    obtain ⟨rfl, hr_25p⟩ := hr_25
    try simp only at hr_25p
    obtain ⟨hr_25p_0, hr_25p_1⟩ := hr_25p
    refine lv_astore_n (lv' := [(2, .ref qa_24), (0, .ref r0), (1, .ref r1), (3, .int a3)]) hx hb dJx4a65c_add_72be8_10 rfl hl (by decide) rfl (fun ls hl => ?_)
    obtain ⟨lz_30, lx_30, hl1_30, hl2_30, hl3_30, hl4_30⟩ := jLs.at (hh_29.iv 0 rfl) hg_26
    obtain rfl : lz = lz_30 := Value.int.inj (jf.uniq (hh_29.at 1 rfl) hl1_30)
    have hl3_30 : 0 ≤ lz.toInt ∧ lz.toInt ≤ 3 := hl3_30
    obtain rfl : qa_24 = lx_30 := Value.ref.inj (jf.uniq (hh_29.at 0 rfl) hl2_30)
    rcases hl4_30 with ⟨hl9_30, hl5_30, hl0_30, hlE_30⟩ | ⟨lm_30, lf_30, hg_lx_30, hlm_30, hl6_30, hl7_30, hl8_30, hlw_30, hlY_30⟩
    · skip
      exact absurd (show base ≤ dI 99 0 by rw [← hl9_30]; exact (hh_29.ab hgq_24_0).1) (va_T.out hK7.2.2.2.2.2.2.2)
    · skip
      obtain rfl : m_qa_24 = lm_30 := by have h9 := Option.some.inj (hgq_24_0.symm.trans hg_lx_30); exact congrArg Prod.snd h9
      have hd_31 := jLs.less (hh_29.iv 0 rfl) r0
      have hh_32 := hh_29.sub (L1 := [(r0, 1, 1, .ref qa_24), (r0, 1, 2, .int lz)]) [0, 1] rfl (M1 := []) [] rfl (I1 := []) [] rfl
      clear hh_29
      have hh_33 := hh_32.addI (jLs.ie hd_31)
      clear hh_32
      have hh_34 := hh_33.addI (jQc.ie hl7_30 hg_lx_30 (by decide) (by decide))
      clear hh_33
      refine lv_aload_n hx hb dJx4a65c_add_72be8_11 rfl (lv_at hl 0 rfl) ?_
      refine lv_iload_n hx hb dJx4a65c_add_72be8_12 rfl (lv_at hl 3 rfl) ?_
      refine lv_aload_n hx hb dJx4a65c_add_72be8_13 rfl (lv_at hl 2 rfl) ?_
      have hd_36 := hh_34.iv 0 rfl
      have hd_37 := hh_34.iv 1 rfl
      have hh_39 := hh_34.sub (L1 := [(r0, 1, 1, .ref qa_24), (r0, 1, 2, .int lz)]) [0, 1] rfl (M1 := []) [] rfl (I1 := []) [] rfl
      clear hh_34
      refine j7_qastO hx hb hK hK7.1 hh_39 hB hB221 0 rfl (by decide) (by decide) rfl rfl rfl hgq_24_0 (x := a3.toInt) (rfl) (by omega) hB3 (T := TX1) (N := 17) rfl (by decide) hg_27 hK7.2.2.1.1.1 (Or.inr ⟨_, rfl, hg_27⟩) hd_36 dJx4a65c_add_72be8_14 (fun H_35 locs_35 fq_38 hv_35 ho_35 hq_35 hr_35 hh_35 => ?_)
      clear hh_39
      have hd_37n := jLs.arr hd_37 hg_26 hgq_24_0 hr_35
      have hh_40 := hh_35.addI (jLs.ie hd_37n)
      clear hh_35
      have hh_41 := hh_40.addI (hq_35.ie hgq_24_0 (by decide) (by decide))
      clear hh_40
      clear hd_36 hd_37 hd_37n hr_35
      refine lv_aload_n hx hb dJx4a65c_add_72be8_15 rfl (lv_at hl 1 rfl) ?_
      refine lv_iload_n hx hb dJx4a65c_add_72be8_16 rfl (lv_at hl 3 rfl) ?_
      refine lv_iconst (v := 1) hx hb dJx4a65c_add_72be8_17 (by decide) ?_
      refine lv_iadd hx hb dJx4a65c_add_72be8_18 ?_
      refine lv_topi (fun z_42 ez_42 => ?_)
      have hz_42 : z_42.toInt = a3.toInt + 1 := by rw [ez_42]; exact jb_iadd2 (rfl) ((by decide)) (by omega)
      have hd_44 := hh_41.iv 1 rfl
      have hh_45 := hh_41.sub (L1 := [(r0, 1, 1, .ref qa_24), (r0, 1, 2, .int lz)]) [0, 1] rfl (M1 := []) [] rfl (I1 := [([(221, 0)], jQc dC dI (ca 9) qa_24 m_qa_24 fq_38)]) [0] rfl
      clear hh_41
      refine j7_putX hx hb hown hK hh_45 hB hAp hB1 (C := RJx4a65c) (T := TJx4a65c) (N := 3) rfl (by decide) hg_26 (i := 2) (by decide) hly_1_2 rfl hlk_48 rfl (ty := .int) (v := .int z_42) (by decide +kernel) rfl rfl (⟨_, rfl, by omega, by omega⟩) rfl (L1 := [(r0, 1, 1, .ref qa_24)]) [0] rfl rfl rfl dJx4a65c_add_72be8_19 (fun H_43 locs_43 hr_43 hh_43 => ?_)
      clear hh_45
      have hd_44n := jLs.fld hd_44 hg_26 hr_43
      have hh_46 := hh_43.addI (jLs.ie hd_44n)
      clear hh_43
      clear hd_44 hd_44n hr_43
      have hd_47 := jLs.full (wn := (wl.s1 (wl.1 + 1) (jUf wl.2.1 (wl.1).toNat (some r1)))) (hh_46.iv 0 rfl) hg_26 ⟨_, _, hh_46.at 0 rfl, hh_46.at 1 rfl, ⟨by omega, (show _ ≤ (3 : Int) by omega)⟩, Or.inr ⟨_, _, hgq_24_0, by omega, by omega, hh_46.iv 1 rfl, jAd.put hl8_30 (by omega) (by omega) (by omega) (by omega) hv_35 ho_35, jWk.put hlw_30 (by omega) (by omega) (by omega) (by omega) hv_35 ho_35, (fun q => absurd rfl q)⟩⟩ ⟨fun q => absurd rfl q, fun _ => rfl, fun _ => rfl⟩
      have hh_48 := hh_46.sub (L1 := [(r0, 1, 2, .int z_42), (r0, 1, 1, .ref qa_24)]) [0, 1] rfl (M1 := []) [] rfl (I1 := [([(221, 0)], jQc dC dI (ca 9) qa_24 m_qa_24 fq_38)]) [1] rfl
      clear hh_46
      have hh_49 := hh_48.addI (jLs.ie hd_47)
      clear hh_48
      have hsz_50 := hh_49.2.2.2.2.2.1
      have htt_50 := hh_49.2.2.2.2.2.2.1
      refine W.room (fun hrc_50 hrs_50 => ?_)
      refine W.widen (k := LC - s.heap.size) (n := LS - jTot s.heap) (by omega) (by omega) ?_
      rw [hQ]
      exact W.vret hx hb hr (fun t ht hW => ⟨⟨(z_42, G_24), rfl, by (try dsimp only); first | omega | rfl | assumption | fail, ⟨hh_49.ra (by first | (simp only; omega) | omega) (by first | (simp only; omega) | omega) (M1 := [(r0, 1, 2, .int z_42)]) [0] rfl ht, hNn_24, by rw [ht]; exact hh_49.2.2.2.2.2.2.2.2.sub (L1 := [(jFl, jLs dC dI ca G_24 3 none (wl.s1 (wl.1 + 1) (jUf wl.2.1 (wl.1).toNat (some r1))))]) [0] rfl⟩⟩, by rw [ht]; try exact hh_49.1.1, fun q h9 hq => by rw [ht]; try exact hh_49.1.2.1 q h9 hq⟩) hh_49.1.2.2 dJx4a65c_add_72be8_22
set_option maxHeartbeats 4000000 in
set_option maxRecDepth 20000 in
theorem uJx4a65c_add_9ea2dL1 (l : Launch) (dC : Nat → ClassId) (dI : Nat → Nat → Nat) (ca : Nat → ClassId) (base : Nat) (B : jF) (hB : jBok B) (hAp : jAp (dC, dI)) (hB1 : ∀ n G a H, B 1 n G a H ↔ jOb (dC, dI) 1 3 (F1 n G) a H) (hB3 : ∀ n G a H, B 3 n G a H ↔ jOb (dC, dI) 3 17 (F3 n G) a H) (hB221 : ∀ n G a H, B 221 n G a H ↔ jAq (dC, dI) (ca 9) (jQn 3 0) n G a H) (G0 : jT) (H0 : Heap) (r0 : Nat) (r1 : Nat) (lz : Int32) (wl : jWl9) (LC LS : Nat) : Met l yJx4a65c_add_9ea2d (jw yJx4a65c_add_9ea2d cJx4a65c_add_9ea2d 2 (some .boolean)) ({ frames := 6, cells := LC - H0.size, slots := LS - jTot H0, locals := 171 }) (va_Pc [.ref r0, .ref r1] (fun U => U.heap = H0 ∧ jX B base G0 [] H0 ∧ jG dC dI ca base U ∧ jK7 dC dI ca base U ∧ G0 r0 = some (1, 1) ∧ G0 r1 = some (3, 0) ∧ jP (dC, dI) G0 H0 [(r0, 1, 2, .int lz)] ∧ jIs (dC, dI) G0 H0 [(jFl, jLs dC dI ca G0 3 none wl)] ∧ H0.size + 1 ≤ LC ∧ jTot H0 + 40 ≤ LS ∧ 0 ≤ lz.toInt ∧ lz.toInt < 3)) (va_Qi (S := Int32 × jT) (fun r u => (r = 0 ∨ r = 1) ∧ (u.1.toInt = lz.toInt + 1)) (fun u t => jRa (dC, dI) B base G0 u.2 EJx4a65c_add_9ea2dL1 H0 (1) (40) [(r0, 1, 2, .int u.1)] t.heap ∧ (jNk [0, 1, 2, 3, 4, 5, 6, 7, 8, 9, 10, 11, 12, 13, 14, 15, 16, 17, 175]) G0 u.2 ∧ jIs (dC, dI) u.2 t.heap [(jFl, jLs dC dI ca u.2 3 none (wl.s1 (wl.1 + 1) (jUf wl.2.1 (wl.1).toNat (some r1))))]) (jA base)) (LC - H0.size) (LS - jTot H0) (jA base) := by
  refine Met.ofW (cc := cJx4a65c_add_9ea2d) (maxL := 2) (ret := (some .boolean)) (by decide) rfl ?_
  intro p e s m args below meth c s₁ Bd hml hv
  obtain ⟨rfl, hH0, hX, hG, hK7, hg_r0, hg_r1, hP0, hI0, hLC0, hLS0, hp0, hp1⟩ := hv
  have hK := hG.1
  have hx := Bd.exec
  have hb := Bd.bytes
  have hr := Bd.returns
  have hts := atoms_spec (ws := (jw yJx4a65c_add_9ea2d cJx4a65c_add_9ea2d 2 (some .boolean))) Bd.pre
  have htw : ∀ w ∈ jWl, w.before _ s = true := fun w h => hts w (List.mem_cons_of_mem _ h)
  have hown : s.vm.findClass RJx4a65c = some m.cls := findClass_of_methodNamed Bd.named
  have hlocks := Bd.notSynchronized
  obtain ⟨Q, hQ⟩ : ∃ Q, Q = MQ below (va_Qi (S := Int32 × jT) (fun r u => (r = 0 ∨ r = 1) ∧ (u.1.toInt = lz.toInt + 1)) (fun u t => jRa (dC, dI) B base G0 u.2 EJx4a65c_add_9ea2dL1 H0 (1) (40) [(r0, 1, 2, .int u.1)] t.heap ∧ (jNk [0, 1, 2, 3, 4, 5, 6, 7, 8, 9, 10, 11, 12, 13, 14, 15, 16, 17, 175]) G0 u.2 ∧ jIs (dC, dI) u.2 t.heap [(jFl, jLs dC dI ca u.2 3 none (wl.s1 (wl.1 + 1) (jUf wl.2.1 (wl.1).toNat (some r1))))]) (jA base)) ([.ref r0, .ref r1] : List Value).toArray s (LC - H0.size) (LS - jTot H0) (jA base) := ⟨_, rfl⟩
  rw [← hQ]
  have hl := lv_entry ([.ref r0, .ref r1]) (n := 2) (Nat.le_of_ble_eq_true rfl)
  rw [lg_entry_eq]
  generalize (lg_sl ([.ref r0, .ref r1]) ++ List.replicate (2 - (lg_sl ([.ref r0, .ref r1])).length) Slot.unset).toArray = ls at hl ⊢
  have hl : lv_has ls 2 [(0, .ref r0), (1, .ref r1)] := hl
  generalize hR : (headSpec (jw yJx4a65c_add_9ea2d cJx4a65c_add_9ea2d 2 (some .boolean)) ({ frames := 6, cells := LC - H0.size, slots := LS - jTot H0, locals := 171 })).room = R
  subst hH0
  have hh : jSt (dC, dI) B base G0 G0 EJx4a65c_add_9ea2dL1 s.heap 0 0 [(r0, 1, 2, .int lz)] [] [(jFl, jLs dC dI ca G0 3 none wl)] s.heap [] := jSt.start hX hP0 jMc.nil hI0
  clear hX hP0
  have hk0 : (0 : Int32).toInt = 0 := by decide
  have hk1 : (1 : Int32).toInt = 1 := by decide
  have hly_1_0 := htw (u_lay RJx4a65c TJx4a65c 0) (jWc_wsJx4a65c0 _ (u_in_lay (by decide)))
  have hly_1_1 := htw (u_lay RJx4a65c TJx4a65c 1) (jWc_wsJx4a65c0 _ (u_in_lay (by decide)))
  have hly_1_2 := htw (u_lay RJx4a65c TJx4a65c 2) (jWc_wsJx4a65c0 _ (u_in_lay (by decide)))
  have hlk_63 := (htw (.fieldLink RJx4a65c 63 "java/util/ArrayList" "modCount" "I") (jWr_33 _ (List.mem_of_getElem? (i := 11) rfl)))
  have hlk_9 := (htw (.fieldLink RJx4a65c 9 "java/util/ArrayList" "elementData" "[Ljava/lang/Object;") (jWr_9 _ (List.mem_of_getElem? (i := 15) rfl)))
  have hlk_48 := (htw (.fieldLink RJx4a65c 48 "java/util/ArrayList" "size" "I") (jWr_28 _ (List.mem_of_getElem? (i := 2) rfl)))
  have hbs : base ≤ s.heap.size := Nat.le_of_lt (Nat.lt_of_le_of_lt (hh.ab hg_r0).1 (hh.ab hg_r0).2)
  have hRc : R.cells = LC - s.heap.size := by rw [← hR]; rfl
  have hRs : R.slots = LS - jTot s.heap := by rw [← hR]; rfl
  refine lv_aload_n hx hb dJx4a65c_add_9ea2d_0 rfl (lv_at hl 0 rfl) ?_
  refine lv_dup hx hb dJx4a65c_add_9ea2d_1 rfl ?_
  obtain ⟨v_1, hv_1, hh_2⟩ := hh.pin (C := RJx4a65c) (T := TJx4a65c) (N := 3) hB1 rfl (by decide) hg_r0 (i := 0) (by decide) rfl
  clear hh
  obtain ⟨modCount_3, rfl⟩ := hv_1
  refine j7_readS hx hb hown hK (C := RJx4a65c) (T := TJx4a65c) (N := 3) rfl hly_1_0 hlk_63 (htw (.sameField "java/util/ArrayList" "java/util/AbstractList" "modCount" "I") (jWr_33 _ (List.mem_of_getElem? (i := 12) rfl))) (hh_2.at 0 rfl) dJx4a65c_add_9ea2d_2 ?_
  refine lv_iconst (v := 1) hx hb dJx4a65c_add_9ea2d_5 (by decide) ?_
  refine lv_iadd hx hb dJx4a65c_add_9ea2d_6 ?_
  refine lv_topi (fun z_4 ez_4 => ?_)
  refine j7_putS hx hb hown hK hh_2 hB hAp hB1 (C := RJx4a65c) (T := TJx4a65c) (N := 3) rfl (by decide) hg_r0 (i := 0) (by decide) hly_1_0 rfl hlk_63 (htw (.sameField "java/util/ArrayList" "java/util/AbstractList" "modCount" "I") (jWr_33 _ (List.mem_of_getElem? (i := 12) rfl))) rfl (ty := .int) (v := .int z_4) (by decide +kernel) rfl rfl (⟨_, rfl⟩) rfl (L1 := [(r0, 1, 2, .int lz)]) [1] rfl rfl rfl dJx4a65c_add_9ea2d_7 (fun H_5 locs_5 hr_5 hh_5 => ?_)
  clear hh_2
  clear hr_5
  obtain ⟨lz_6, lx_6, hl1_6, hl2_6, hl3_6, hl4_6⟩ := jLs.at (hh_5.iv 0 rfl) hg_r0
  obtain rfl : lz = lz_6 := Value.int.inj (jf.uniq (hh_5.at 1 rfl) hl1_6)
  have hl3_6 : 0 ≤ lz.toInt ∧ lz.toInt ≤ 3 := hl3_6
  rcases hl4_6 with ⟨rfl, hl5_6, hl0_6, hlE_6⟩ | ⟨lm_6, lf_6, hg_lx_6, hlm_6, hl6_6, hl7_6, hl8_6, hlw_6, hlY_6⟩
  · skip
    have hh_7 := hh_5.more (P1 := [(r0, 1, 1, .ref (dI 99 0))]) (jP.cons hg_r0 hl2_6 jP.nil)
    clear hh_5
    refine lv_aload_n hx hb dJx4a65c_add_9ea2d_10 rfl (lv_at hl 0 rfl) ?_
    refine lv_aload_n hx hb dJx4a65c_add_9ea2d_11 rfl (lv_at hl 1 rfl) ?_
    refine lv_aload_n hx hb dJx4a65c_add_9ea2d_12 rfl (lv_at hl 0 rfl) ?_
    refine j7_read hx hb hown hK (C := RJx4a65c) (T := TJx4a65c) (N := 3) rfl hly_1_1 hlk_9 (hh_7.at 0 rfl) dJx4a65c_add_9ea2d_13 ?_
    refine lv_aload_n hx hb dJx4a65c_add_9ea2d_16 rfl (lv_at hl 0 rfl) ?_
    refine j7_read hx hb hown hK (C := RJx4a65c) (T := TJx4a65c) (N := 3) rfl hly_1_2 hlk_48 (hh_7.at 2 rfl) dJx4a65c_add_9ea2d_17 ?_
    have hsz_8 := hh_7.2.2.2.2.2.1
    have htt_8 := hh_7.2.2.2.2.2.2.1
    refine W.room (fun hrc_8 hrs_8 => ?_)
    refine va_callv (A0 := jA base) (H0 := s.heap) (va_runV (As := [.ref r1, .ref (dI 99 0), .int lz]) (rest := []) ⟨hx, hb, hml, hown, hts⟩ (uJx4a65c_add_72be8E1 l dC dI ca base B hB hAp hB1 hB3 hB221 G0 H_5 r0 r1 lz lz wl LC LS) (cwV 3 hts (jgV (jWr_33 _ (List.mem_of_getElem? (i := 13) rfl)) (jWr_33 _ (List.mem_of_getElem? (i := 14) rfl)) (jWr_33 _ (List.mem_of_getElem? (i := 15) rfl)) (jWr_2 _ (List.mem_of_getElem? (i := 13) rfl)) (jWr_33 _ (List.mem_of_getElem? (i := 16) rfl))) rfl rfl rfl (by decide +kernel) ⟨by rw [← hR]; exact Nat.le_of_ble_eq_true rfl, by rw [← hR]; exact Nat.le_of_ble_eq_true rfl⟩) ⟨fun a U g mk q => by obtain ⟨q0, q1, q2, qK, q10, q11, q12, q13, q14, q15⟩ := q; exact ⟨q0, q1, q2, jG.calling g mk a qK, (jK7.calling g mk a q10), q11, q12, q13, q14, q15⟩, hh_7.recv (C := RJx4a65c) (T := TJx4a65c) (N := 3) hB1 rfl (by decide) hg_r0 hK, fun U hU hW => ⟨rfl, hU, hh_7.2.1, hG.step hW hU hh_7.1, (hK7.step hW hU hh_7.1), hg_r0, hg_r1, (hh_7.2.2.1.sub (L1 := [(r0, 1, 1, .ref (dI 99 0)), (r0, 1, 2, .int lz)]) [0, 2] rfl), (hh_7.2.2.2.2.2.2.2.2.sub (L1 := [(jFl, jLs dC dI ca G0 3 none wl)]) [0] rfl), by first | omega | (refine ⟨?_, ?_⟩ <;> (first | omega | rfl | assumption | decide | exact Or.inl rfl | exact Or.inr rfl | (simp only; omega)))⟩⟩ rfl rfl hl.1 rfl (lv_room (Nat.le_of_ble_eq_true rfl)) dJx4a65c_add_9ea2d_20 ⟨by rw [hRc]; omega, by rw [hRs]; omega⟩) hh_7.1 (fun q _ h => h) (fun q h => h) (fun u_8 t_8 H_8 locs_8 ht_8 hvm_8 hr_9 hb_8 hz_8 hk_8 hS_8 => ?_)
    obtain ⟨qz_8, G_8⟩ := u_8
    rw [ht_8] at hb_8
    simp only at hb_8
    obtain ⟨⟨hb_81, hb_82, hb_83, hb_84, hb_85, hb_86⟩, hN_8, hbE_8⟩ := hb_8
    have hh_8 : jSt (dC, dI) B base G0 G_8 EJx4a65c_add_9ea2dL1 s.heap (0 + (1)) (0 + (40)) [(r0, 1, 2, .int qz_8), (r0, 1, 0, .int z_4)] [] [] H_8 locs_8 := (hh_7.callG hb_81 hb_82 hb_83 hb_84 hb_85 hS_8 rfl (L1 := [(r0, 1, 0, .int z_4)]) [1] rfl rfl (M1 := []) [] rfl rfl (I1 := []) [] rfl rfl).more hb_86
    have hNn_8 : (jNk [0, 1, 2, 3, 4, 5, 6, 7, 8, 9, 10, 11, 12, 13, 14, 15, 16, 17, 175]) G0 G_8 := (jNk.rf).tr hN_8
    have hg_10 := hb_82 _ _ hg_r0
    have hg_11 := hb_82 _ _ hg_r1
    have hh_12 := hh_8.addIs hbE_8
    try simp only at hr_9
    refine lv_iconst (v := 1) hx hb dJx4a65c_add_9ea2d_23 (by decide) ?_
    have hsz_13 := hh_12.2.2.2.2.2.1
    have htt_13 := hh_12.2.2.2.2.2.2.1
    refine W.room (fun hrc_13 hrs_13 => ?_)
    refine W.widen (k := LC - s.heap.size) (n := LS - jTot s.heap) (by omega) (by omega) ?_
    rw [hQ]
    exact W.zret (v := 1) hx hb hr (jb_nz (Or.inr rfl)) (fun t ht hW => ⟨⟨1, (qz_8, G_8), rfl, ⟨(Or.inr rfl), by (try dsimp only); first | omega | rfl | assumption | fail⟩, ⟨hh_12.ra (by first | (simp only; omega) | omega) (by first | (simp only; omega) | omega) (M1 := [(r0, 1, 2, .int qz_8)]) [0] rfl ht, hNn_8, by rw [ht]; exact hh_12.2.2.2.2.2.2.2.2.sub (L1 := [(jFl, jLs dC dI ca G_8 3 none (wl.s1 (wl.1 + 1) (jUf wl.2.1 (wl.1).toNat (some r1))))]) [0] rfl⟩⟩, by rw [ht]; try exact hh_12.1.1, fun q h9 hq => by rw [ht]; try exact hh_12.1.2.1 q h9 hq⟩) hh_12.1.2.2 dJx4a65c_add_9ea2d_24
  · skip
    have hh_14 := hh_5.more (P1 := [(r0, 1, 1, .ref lx_6)]) (jP.cons hg_r0 hl2_6 jP.nil)
    clear hh_5
    have hh_15 := hh_14.addI (jQc.ie hl7_6 hg_lx_6 (by decide) (by decide))
    clear hh_14
    refine lv_aload_n hx hb dJx4a65c_add_9ea2d_10 rfl (lv_at hl 0 rfl) ?_
    refine lv_aload_n hx hb dJx4a65c_add_9ea2d_11 rfl (lv_at hl 1 rfl) ?_
    refine lv_aload_n hx hb dJx4a65c_add_9ea2d_12 rfl (lv_at hl 0 rfl) ?_
    refine j7_read hx hb hown hK (C := RJx4a65c) (T := TJx4a65c) (N := 3) rfl hly_1_1 hlk_9 (hh_15.at 0 rfl) dJx4a65c_add_9ea2d_13 ?_
    refine lv_aload_n hx hb dJx4a65c_add_9ea2d_16 rfl (lv_at hl 0 rfl) ?_
    refine j7_read hx hb hown hK (C := RJx4a65c) (T := TJx4a65c) (N := 3) rfl hly_1_2 hlk_48 (hh_15.at 2 rfl) dJx4a65c_add_9ea2d_17 ?_
    have hsz_16 := hh_15.2.2.2.2.2.1
    have htt_16 := hh_15.2.2.2.2.2.2.1
    refine W.room (fun hrc_16 hrs_16 => ?_)
    refine va_callv (A0 := jA base) (H0 := s.heap) (va_runV (As := [.ref r1, .ref lx_6, .int lz]) (rest := []) ⟨hx, hb, hml, hown, hts⟩ (uJx4a65c_add_72be8L1 l dC dI ca base B hB hAp hB1 hB3 hB221 G0 H_5 r0 r1 lx_6 lz lm_6 lz wl LC LS) (cwV 3 hts (jgV (jWr_33 _ (List.mem_of_getElem? (i := 13) rfl)) (jWr_33 _ (List.mem_of_getElem? (i := 14) rfl)) (jWr_33 _ (List.mem_of_getElem? (i := 15) rfl)) (jWr_2 _ (List.mem_of_getElem? (i := 13) rfl)) (jWr_33 _ (List.mem_of_getElem? (i := 16) rfl))) rfl rfl rfl (by decide +kernel) ⟨by rw [← hR]; exact Nat.le_of_ble_eq_true rfl, by rw [← hR]; exact Nat.le_of_ble_eq_true rfl⟩) ⟨fun a U g mk q => by obtain ⟨q0, q1, q2, qK, q10, q11, q12, q13, q14, q15, q16⟩ := q; exact ⟨q0, q1, q2, jG.calling g mk a qK, (jK7.calling g mk a q10), q11, q12, q13, q14, q15, q16⟩, hh_15.recv (C := RJx4a65c) (T := TJx4a65c) (N := 3) hB1 rfl (by decide) hg_r0 hK, fun U hU hW => ⟨rfl, hU, hh_15.2.1, hG.step hW hU hh_15.1, (hK7.step hW hU hh_15.1), hg_r0, hg_r1, hg_lx_6, (hh_15.2.2.1.sub (L1 := [(r0, 1, 1, .ref lx_6), (r0, 1, 2, .int lz)]) [0, 2] rfl), (hh_15.2.2.2.2.2.2.2.2.sub (L1 := [(jFl, jLs dC dI ca G0 3 none wl)]) [1] rfl), by first | omega | (refine ⟨?_, ?_, ?_, ?_⟩ <;> (first | omega | rfl | assumption | decide | exact Or.inl rfl | exact Or.inr rfl | (simp only; omega)))⟩⟩ rfl rfl hl.1 rfl (lv_room (Nat.le_of_ble_eq_true rfl)) dJx4a65c_add_9ea2d_20 ⟨by rw [hRc]; omega, by rw [hRs]; omega⟩) hh_15.1 (fun q _ h => h) (fun q h => h) (fun u_16 t_16 H_16 locs_16 ht_16 hvm_16 hr_17 hb_16 hz_16 hk_16 hS_16 => ?_)
    obtain ⟨qz_16, G_16⟩ := u_16
    rw [ht_16] at hb_16
    simp only at hb_16
    obtain ⟨⟨hb_161, hb_162, hb_163, hb_164, hb_165, hb_166⟩, hN_16, hbE_16⟩ := hb_16
    have hh_16 : jSt (dC, dI) B base G0 G_16 EJx4a65c_add_9ea2dL1 s.heap (0 + (1)) (0 + (40)) [(r0, 1, 2, .int qz_16), (r0, 1, 0, .int z_4)] [] [] H_16 locs_16 := (hh_15.callG hb_161 hb_162 hb_163 hb_164 hb_165 hS_16 rfl (L1 := [(r0, 1, 0, .int z_4)]) [1] rfl rfl (M1 := []) [] rfl rfl (I1 := []) [] rfl rfl).more hb_166
    have hNn_16 : (jNk [0, 1, 2, 3, 4, 5, 6, 7, 8, 9, 10, 11, 12, 13, 14, 15, 16, 17, 175]) G0 G_16 := (jNk.rf).tr hN_16
    have hg_18 := hb_162 _ _ hg_r0
    have hg_19 := hb_162 _ _ hg_r1
    have hh_20 := hh_16.addIs hbE_16
    try simp only at hr_17
    refine lv_iconst (v := 1) hx hb dJx4a65c_add_9ea2d_23 (by decide) ?_
    have hsz_21 := hh_20.2.2.2.2.2.1
    have htt_21 := hh_20.2.2.2.2.2.2.1
    refine W.room (fun hrc_21 hrs_21 => ?_)
    refine W.widen (k := LC - s.heap.size) (n := LS - jTot s.heap) (by omega) (by omega) ?_
    rw [hQ]
    exact W.zret (v := 1) hx hb hr (jb_nz (Or.inr rfl)) (fun t ht hW => ⟨⟨1, (qz_16, G_16), rfl, ⟨(Or.inr rfl), by (try dsimp only); first | omega | rfl | assumption | fail⟩, ⟨hh_20.ra (by first | (simp only; omega) | omega) (by first | (simp only; omega) | omega) (M1 := [(r0, 1, 2, .int qz_16)]) [0] rfl ht, hNn_16, by rw [ht]; exact hh_20.2.2.2.2.2.2.2.2.sub (L1 := [(jFl, jLs dC dI ca G_16 3 none (wl.s1 (wl.1 + 1) (jUf wl.2.1 (wl.1).toNat (some r1))))]) [0] rfl⟩⟩, by rw [ht]; try exact hh_20.1.1, fun q h9 hq => by rw [ht]; try exact hh_20.1.2.1 q h9 hq⟩) hh_20.1.2.2 dJx4a65c_add_9ea2d_24
end
section
-- p9: the texts of all documents, as a walk carries them; System.arraycopy of ints with contents
section J91
variable {dC : Nat → ClassId} {dI : Nat → Nat → Nat} {ca : Nat → ClassId} {G G1 : jT} {H H1 : Heap} {x : Option Nat} {t : jDtl}
end J91
-- the reference's
section J92
variable {dC : Nat → ClassId} {dI : Nat → Nat → Nat} {ca : Nat → ClassId} {G G1 : jT} {H H1 : Heap} {x : Option Nat} {t : jDtr}
end J92
section J93
variable {p : Program} {l : Launch} {e : Env} {R : Room} {s : State} {m : MethodId} {args : Array Value} {below : List Frame} {meth : Method} {c : Code} {H : Heap} {locs : List Loc} {cells slots : Nat} {Q : State → Prop}
variable {cc : ByteArray} {pc : Nat} {ls : Array Slot} {rest : List Value} {dC : Nat → ClassId} {dI : Nat → Nat → Nat} {ca : Nat → ClassId} {B : jF} {base : Nat} {G0 G : jT} {E : List (Nat × Nat)} {H0 : Heap} {zc zs : Nat} {L : List jPin} {M : List jCt} {I : List jIv} {a a0 k k0 n n0 index : Nat} {tys : List (ClassId × FieldType)} {own : String} {P P0 : Nat → Int32 → Prop} {cA : ClassId}
theorem j7_lenR {f : Nat → Int32} (hexec : p.tables.exec = Jvm.exec) (hb : c.code = cc) (hK : va_K (dC, dI) vwCl tys s) (hraw : va_at (dC, dI) vwCl (a, .inl (cA, n, .inl f)) H) (t0 : Nat) (ht : tys[t0]? = some (cA, .int)) (hn : n < 2147483648) (hdg : decode cc pc = .ok (.arraylength, 1))
    (kk : ∀ z : Int32, z.toInt = n → W p l e R s m args below meth c H locs cells slots Q (F0 m (pc + 1) ls (.int z :: rest))) : W p l e R s m args below meth c H locs cells slots Q (F0 m pc ls (.ref a :: rest)) :=
  va_alen (v := Int32.ofNat n) hexec hb hK (jp_one hraw) 0 t0 rfl ht rfl hdg (kk _ (jb_nat hn))
end J93
-- texts alike, a part of a text exchanged
theorem jSo_upd {f : Nat → Int32} {i i1 : Int} {v : Int32} {q : Int → Int} (h : ∀ j : Int, 0 ≤ j → j < i → jSo f j = q j) (hv : v.toInt = q i) (hi : 0 ≤ i) (e : i1 = i + 1) : ∀ j : Int, 0 ≤ j → j < i1 → jSo (upd f i.toNat v) j = q j := fun j j0 j1 => by
  show (upd f i.toNat v j.toNat).toInt = q j
  by_cases w : j = i
  · subst w
    rw [← hv]
    simp [upd]
  · have hne : j.toNat ≠ i.toNat := by omega
    simp only [upd, if_neg hne]
    exact h j j0 (by omega)
-- where a change goes, and what it makes
end
section
def EX4_unitsOfU : List (Nat × Nat) := []
set_option maxHeartbeats 4000000 in
set_option maxRecDepth 20000 in
theorem uX4_unitsOfU (l : Launch) (dC : Nat → ClassId) (dI : Nat → Nat → Nat) (ca : Nat → ClassId) (base : Nat) (B : jF) (hB : jBok B) (hAp : jAp (dC, dI)) (hB6 : ∀ n G a H, B 6 n G a H ↔ jOb (dC, dI) 6 12 (F6 n G) a H) (hB140 : ∀ n G a H, B 140 n G a H ↔ jAr (dC, dI) (ca 1) (fun j z => True) n a H) (hB141 : ∀ n G a H, B 141 n G a H ↔ jAr (dC, dI) (ca 1) (fun j z => True) n a H) (hB142 : ∀ n G a H, B 142 n G a H ↔ jAr (dC, dI) (ca 1) (fun j z => True) n a H) (hB146 : ∀ n G a H, B 146 n G a H ↔ jAr (dC, dI) (ca 1) (fun j z => True) n a H) (hB174 : ∀ n G a H, B 174 n G a H ↔ jAr (dC, dI) (ca 1) (fun j z => True) n a H) (G0 : jT) (H0 : Heap) (r0 : Nat) (a1 : Int32) (pv : Int32) (pu : Int32) (wk : Nat) (wi : Nat) (wz : Nat) (jnx : Nat) (jkf : Nat) (jks : Nat) (jun : Nat) (T9 : Nat → Int → Int) (fk : Nat → Int32) (fi : Nat → Int32) (fz : Nat → Int32) (fn : Nat → Int32) (fa : Nat → Int32) (fs : Nat → Int32) (fu : Nat → Int32) (LC LS : Nat) : Met l yX4_unitsOf (jw yX4_unitsOf cX4_unitsOf 4 (some (.array .int))) ({ frames := 2, cells := LC - H0.size, slots := LS - jTot H0, locals := 44 }) (va_Pc [.ref r0, .int a1] (fun U => U.heap = H0 ∧ jX B base G0 [] H0 ∧ jG dC dI ca base U ∧ G0 r0 = some (6, 0) ∧ G0 wk = some (140, 1502) ∧ G0 wi = some (141, 1502) ∧ G0 wz = some (142, 1502) ∧ G0 jnx = some (143, 1502) ∧ G0 jkf = some (144, 1502) ∧ G0 jks = some (145, 1502) ∧ G0 jun = some (146, 3000) ∧ jP (dC, dI) G0 H0 [(r0, 6, 7, .int pv), (r0, 6, 8, .int pu), (r0, 6, 0, .ref wk), (r0, 6, 1, .ref wi), (r0, 6, 2, .ref wz), (r0, 6, 3, .ref jnx), (r0, 6, 4, .ref jkf), (r0, 6, 5, .ref jks), (r0, 6, 6, .ref jun)] ∧ jMc (dC, dI) G0 H0 [(wk, 140, 1502, ca 1, fk), (wi, 141, 1502, ca 1, fi), (wz, 142, 1502, ca 1, fz), (jnx, 143, 1502, ca 1, fn), (jkf, 144, 1502, ca 1, fa), (jks, 145, 1502, ca 1, fs), (jun, 146, 3000, ca 1, fu)] ∧ H0.size + 1 ≤ LC ∧ jTot H0 + 3000 ≤ LS ∧ 0 ≤ pv.toInt ∧ pv.toInt ≤ 1502 ∧ 0 ≤ pu.toInt ∧ pu.toInt ≤ 3000 ∧ jjTC T9 pv.toInt pu.toInt fk fi fz fn fa fs fu ∧ jqR fk fi fz fa fs pv.toInt pu.toInt)) (jQx (S := Nat × Nat × jT) (fun v u => v = .ref u.1 ∧ jRf u.2.2 174 u.2.1 v ∧ jNwv v H0 ∧ u.2.1 ≤ 3000 ∧ u.2.1 = (if jqK T9 pv.toInt a1.toInt = 3 then T9 3 a1.toInt else 0)) (fun u t => jRa (dC, dI) B base G0 u.2.2 EX4_unitsOfU H0 (1) (u.2.1) [] t.heap ∧ (jNk [0, 1, 2, 3, 4, 5, 6, 7, 8, 9, 10, 11, 12, 13, 14, 15, 16, 17, 175]) G0 u.2.2 ∧ (∃ f : Nat → Int32, va_at (dC, dI) vwCl (u.1, .inl (ca 1, u.2.1, .inl f)) t.heap ∧ (∀ j : Int, 0 ≤ j → j < u.2.1 → jSo f j = jqA T9 pv.toInt a1.toInt j)) ∧ jKe G0 u.2.2 H0 t.heap) (jA base)) (LC - H0.size) (LS - jTot H0) (jA base) := by
  refine Met.ofW (cc := cX4_unitsOf) (maxL := 4) (ret := (some (.array .int))) (by decide) rfl ?_
  intro p e s m args below meth c s₁ Bd hml hv
  obtain ⟨rfl, hH0, hX, hG, hg_r0, hg_wk, hg_wi, hg_wz, hg_jnx, hg_jkf, hg_jks, hg_jun, hP0, hM0, hLC0, hLS0, hp0, hp1, hp2, hp3, hp4, hp5⟩ := hv
  have hK := hG.1
  have hx := Bd.exec
  have hb := Bd.bytes
  have hr := Bd.returns
  have hts := atoms_spec (ws := (jw yX4_unitsOf cX4_unitsOf 4 (some (.array .int)))) Bd.pre
  have htw : ∀ w ∈ jWl, w.before _ s = true := fun w h => hts w (List.mem_cons_of_mem _ h)
  have hown : s.vm.findClass RX4 = some m.cls := findClass_of_methodNamed Bd.named
  have hlocks := Bd.notSynchronized
  obtain ⟨Q, hQ⟩ : ∃ Q, Q = MQ below (jQx (S := Nat × Nat × jT) (fun v u => v = .ref u.1 ∧ jRf u.2.2 174 u.2.1 v ∧ jNwv v H0 ∧ u.2.1 ≤ 3000 ∧ u.2.1 = (if jqK T9 pv.toInt a1.toInt = 3 then T9 3 a1.toInt else 0)) (fun u t => jRa (dC, dI) B base G0 u.2.2 EX4_unitsOfU H0 (1) (u.2.1) [] t.heap ∧ (jNk [0, 1, 2, 3, 4, 5, 6, 7, 8, 9, 10, 11, 12, 13, 14, 15, 16, 17, 175]) G0 u.2.2 ∧ (∃ f : Nat → Int32, va_at (dC, dI) vwCl (u.1, .inl (ca 1, u.2.1, .inl f)) t.heap ∧ (∀ j : Int, 0 ≤ j → j < u.2.1 → jSo f j = jqA T9 pv.toInt a1.toInt j)) ∧ jKe G0 u.2.2 H0 t.heap) (jA base)) ([.ref r0, .int a1] : List Value).toArray s (LC - H0.size) (LS - jTot H0) (jA base) := ⟨_, rfl⟩
  rw [← hQ]
  have hl := lv_entry ([.ref r0, .int a1]) (n := 4) (Nat.le_of_ble_eq_true rfl)
  rw [lg_entry_eq]
  generalize (lg_sl ([.ref r0, .int a1]) ++ List.replicate (4 - (lg_sl ([.ref r0, .int a1])).length) Slot.unset).toArray = ls at hl ⊢
  have hl : lv_has ls 4 [(0, .ref r0), (1, .int a1)] := hl
  generalize hR : (headSpec (jw yX4_unitsOf cX4_unitsOf 4 (some (.array .int))) ({ frames := 2, cells := LC - H0.size, slots := LS - jTot H0, locals := 44 })).room = R
  subst hH0
  have hh : jSt (dC, dI) B base G0 G0 EX4_unitsOfU s.heap 0 0 [(r0, 6, 7, .int pv), (r0, 6, 8, .int pu), (r0, 6, 0, .ref wk), (r0, 6, 1, .ref wi), (r0, 6, 2, .ref wz), (r0, 6, 3, .ref jnx), (r0, 6, 4, .ref jkf), (r0, 6, 5, .ref jks), (r0, 6, 6, .ref jun)] [(wk, 140, 1502, ca 1, fk), (wi, 141, 1502, ca 1, fi), (wz, 142, 1502, ca 1, fz), (jnx, 143, 1502, ca 1, fn), (jkf, 144, 1502, ca 1, fa), (jks, 145, 1502, ca 1, fs), (jun, 146, 3000, ca 1, fu)] [] s.heap [] := jSt.start hX hP0 hM0 jIs.nil
  clear hX hP0
  have hk0 : (0 : Int32).toInt = 0 := by decide
  have hk1 : (1 : Int32).toInt = 1 := by decide
  have hk3 : (3 : Int32).toInt = 3 := by decide
  have hly_6_2 := htw (u_lay RX4 TX4 2) (jWc_wsX40 _ (u_in_lay (by decide)))
  have hlk_18 := (htw (.fieldLink RX4 18 "ProofServer$Json" "sizes" "[I") (jWr_3 _ (List.mem_of_getElem? (i := 23) rfl)))
  have hrg_a1 := jb_rng a1
  have hbs : base ≤ s.heap.size := Nat.le_of_lt (Nat.lt_of_le_of_lt (hh.ab hg_r0).1 (hh.ab hg_r0).2)
  have hRc : R.cells = LC - s.heap.size := by rw [← hR]; rfl
  have hRs : R.slots = LS - jTot s.heap := by rw [← hR]; rfl
  have hkp : jKe G0 G0 s.heap s.heap := jKe.rf
  refine lv_aload_n hx hb dX4_unitsOf_0 rfl (lv_at hl 0 rfl) ?_
  refine lv_iload_n hx hb dX4_unitsOf_1 rfl (lv_at hl 1 rfl) ?_
  have hsz_1 := hh.2.2.2.2.2.1
  have htt_1 := hh.2.2.2.2.2.2.1
  refine W.room (fun hrc_1 hrs_1 => ?_)
  refine va_calli (A0 := jA base) (H0 := s.heap) (va_runV (As := [.int a1]) (rest := []) ⟨hx, hb, hml, hown, hts⟩ (uX4_kindOfJ l dC dI ca base B hB hAp hB6 hB140 G0 s.heap r0 a1 pv pu wk wi wz jnx jkf jks jun T9 fk fi fz fn fa fs fu) (cwV 1 hts (jgV (jWr_23 _ (List.mem_of_getElem? (i := 14) rfl)) (jWr_23 _ (List.mem_of_getElem? (i := 15) rfl)) (jWr_23 _ (List.mem_of_getElem? (i := 16) rfl)) (jWr_1 _ (List.mem_of_getElem? (i := 22) rfl)) (jWr_23 _ (List.mem_of_getElem? (i := 17) rfl))) rfl rfl rfl (by decide +kernel) ⟨by rw [← hR]; exact Nat.le_of_ble_eq_true rfl, by rw [← hR]; exact Nat.le_of_ble_eq_true rfl⟩) ⟨fun a U g mk q => by obtain ⟨q0, q1, q2, qK, q10, q11, q12, q13, q14, q15, q16, q17, q18, q19, q20⟩ := q; exact ⟨q0, q1, q2, jG.calling g mk a qK, q10, q11, q12, q13, q14, q15, q16, q17, q18, q19, q20⟩, hh.recv (C := RX4) (T := TX4) (N := 12) hB6 rfl (by decide) hg_r0 hK, fun U hU hW => ⟨rfl, hU, hh.2.1, hG.step hW hU hh.1, hg_r0, hg_wk, hg_wi, hg_wz, hg_jnx, hg_jkf, hg_jks, hg_jun, (hh.2.2.1.sub (L1 := [(r0, 6, 7, .int pv), (r0, 6, 8, .int pu), (r0, 6, 0, .ref wk), (r0, 6, 1, .ref wi), (r0, 6, 2, .ref wz), (r0, 6, 3, .ref jnx), (r0, 6, 4, .ref jkf), (r0, 6, 5, .ref jks), (r0, 6, 6, .ref jun)]) [0, 1, 2, 3, 4, 5, 6, 7, 8] rfl), (hh.2.2.2.2.2.2.2.1.sub (L1 := [(wk, 140, 1502, ca 1, fk), (wi, 141, 1502, ca 1, fi), (wz, 142, 1502, ca 1, fz), (jnx, 143, 1502, ca 1, fn), (jkf, 144, 1502, ca 1, fa), (jks, 145, 1502, ca 1, fs), (jun, 146, 3000, ca 1, fu)]) [0, 1, 2, 3, 4, 5, 6] rfl), by first | omega | (refine ⟨?_, ?_, ?_, ?_, ?_⟩ <;> (first | omega | rfl | assumption | decide | exact Or.inl rfl | exact Or.inr rfl | (simp only; omega)))⟩⟩ rfl rfl hl.1 rfl (lv_room (Nat.le_of_ble_eq_true rfl)) dX4_unitsOf_2 ⟨by rw [hRc]; show _ + 0 ≤ _; omega, by rw [hRs]; show _ + 0 ≤ _; omega⟩) hh.1 (fun q _ h => h) (fun q h => h) (fun r_2 u_1 t_1 H_1 locs_1 ht_1 hvm_1 hr_2 hb_1 hz_1 hk_1 hS_1 => ?_)
  rw [ht_1] at hb_1
  obtain ⟨hb_1, hbF_1⟩ := hb_1
  obtain ⟨hb_11, hb_12, hb_13, hb_14, hb_15⟩ := hb_1
  have hh_1 : jSt (dC, dI) B base G0 G0 EX4_unitsOfU s.heap 0 0 [(r0, 6, 7, .int pv), (r0, 6, 8, .int pu), (r0, 6, 0, .ref wk), (r0, 6, 1, .ref wi), (r0, 6, 2, .ref wz), (r0, 6, 3, .ref jnx), (r0, 6, 4, .ref jkf), (r0, 6, 5, .ref jks), (r0, 6, 6, .ref jun)] [(wk, 140, 1502, ca 1, fk), (wi, 141, 1502, ca 1, fi), (wz, 142, 1502, ca 1, fz), (jnx, 143, 1502, ca 1, fn), (jkf, 144, 1502, ca 1, fa), (jks, 145, 1502, ca 1, fs), (jun, 146, 3000, ca 1, fu)] [] H_1 locs_1 := ((hh.call hb_11 hb_12 hb_13 hb_14 hS_1 rfl (L1 := [(r0, 6, 7, .int pv), (r0, 6, 8, .int pu), (r0, 6, 0, .ref wk), (r0, 6, 1, .ref wi), (r0, 6, 2, .ref wz), (r0, 6, 3, .ref jnx), (r0, 6, 4, .ref jkf), (r0, 6, 5, .ref jks), (r0, 6, 6, .ref jun)]) [0, 1, 2, 3, 4, 5, 6, 7, 8] rfl rfl (M1 := [(wk, 140, 1502, ca 1, fk), (wi, 141, 1502, ca 1, fi), (wz, 142, 1502, ca 1, fz), (jnx, 143, 1502, ca 1, fn), (jkf, 144, 1502, ca 1, fa), (jks, 145, 1502, ca 1, fs), (jun, 146, 3000, ca 1, fu)]) [0, 1, 2, 3, 4, 5, 6] rfl rfl (I1 := []) [] rfl rfl).more hb_15)
  clear hh ht_1 hvm_1 hz_1 hk_1 hS_1 hb_11 hb_12 hb_13 hb_14 hb_15
  have hkp_3 := hkp.fl hbF_1 (by intro q h9; simp at h9)
  obtain ⟨hr_2_0, hr_2_1⟩ := hr_2
  refine lv_iconst (v := 3) hx hb dX4_unitsOf_5 (by decide) ?_
  have C23 : ∀ (w0_4 : Int32) (H_4 : Heap) (locs_4 : List Loc), jSt (dC, dI) B base G0 G0 EX4_unitsOfU s.heap 0 0 [(r0, 6, 7, .int pv), (r0, 6, 8, .int pu), (r0, 6, 0, .ref wk), (r0, 6, 1, .ref wi), (r0, 6, 2, .ref wz), (r0, 6, 3, .ref jnx), (r0, 6, 4, .ref jkf), (r0, 6, 5, .ref jks), (r0, 6, 6, .ref jun)] [(wk, 140, 1502, ca 1, fk), (wi, 141, 1502, ca 1, fi), (wz, 142, 1502, ca 1, fz), (jnx, 143, 1502, ca 1, fn), (jkf, 144, 1502, ca 1, fa), (jks, 145, 1502, ca 1, fs), (jun, 146, 3000, ca 1, fu)] [] H_4 locs_4 → jKe G0 G0 s.heap H_4 → (0 ≤ w0_4.toInt ∧ w0_4.toInt ≤ 3000 ∧ w0_4.toInt = (if jqK T9 pv.toInt a1.toInt = 3 then T9 3 a1.toInt else 0)) → ∀ ls : Array Slot, lv_has ls 4 [(0, .ref r0), (1, .int a1)] → W p l e R s m ([.ref r0, .int a1] : List Value).toArray below meth c H_4 locs_4 0 0 Q (F0 m 23 ls [.int w0_4]) := by
    intro w0_4 H_4 locs_4 hh_4 hkp_4 hi_4 ls hl
    obtain ⟨hi_4_0, hi_4_1, hi_4_2⟩ := hi_4
    try clear hr_2_0
    have hsz_5 := hh_4.2.2.2.2.2.1
    have htt_5 := hh_4.2.2.2.2.2.2.1
    have hsy_5 : s.heap.size ≤ H_4.size := hh_4.1.1
    refine j7_newiR hx hb hK hh_4 hB (atype := .int) (ty := .int) (htw (.arrayClass .int) (jWr_3 _ (List.mem_of_getElem? (i := 20) rfl))) rfl rfl (fun _ h => h) 1 rfl (by decide) (x := w0_4.toInt) rfl (by omega) (by rw [hRc]; omega) (by rw [hRs]; omega) dX4_unitsOf_23 (fun H_5 hfr_5 hnr_5 hraw_5 hh_5 => ?_)
    have hke_5 : jKe G0 G0 H_4 H_5 := jKe.raw hfr_5
    have hbr_5 : base ≤ H_4.size := Nat.le_trans hbs hsy_5
    obtain ⟨nq_5, hnq_5⟩ : ∃ q : Nat, q = (w0_4.toInt).toNat := ⟨_, rfl⟩
    rw [← hnq_5] at hraw_5 hh_5 ⊢
    clear hh_4
    have hkp_6 := hkp_4.tr hke_5
    refine lv_astore_n (lv' := [(2, .ref H_4.size), (0, .ref r0), (1, .int a1)]) hx hb dX4_unitsOf_25 rfl hl (by decide) rfl (fun ls hl => ?_)
    refine lv_iconst (v := 0) hx hb dX4_unitsOf_26 (by decide) ?_
    refine lv_istore_n (lv' := [(3, .int 0), (2, .ref H_4.size), (0, .ref r0), (1, .int a1)]) hx hb dX4_unitsOf_27 rfl hl (by decide) rfl (fun ls hl => ?_)
    have L28 : ∀ (N : Nat) (fq_7 : Nat → Int32) (v3_7 : Int32) (H_7 : Heap) (locs_7 : List Loc), jSt (dC, dI) B base G0 G0 EX4_unitsOfU s.heap (0 + 1) (0 + nq_5) [(r0, 6, 7, .int pv), (r0, 6, 8, .int pu), (r0, 6, 0, .ref wk), (r0, 6, 1, .ref wi), (r0, 6, 2, .ref wz), (r0, 6, 3, .ref jnx), (r0, 6, 4, .ref jkf), (r0, 6, 5, .ref jks), (r0, 6, 6, .ref jun)] [(wk, 140, 1502, ca 1, fk), (wi, 141, 1502, ca 1, fi), (wz, 142, 1502, ca 1, fz), (jnx, 143, 1502, ca 1, fn), (jkf, 144, 1502, ca 1, fa), (jks, 145, 1502, ca 1, fs), (jun, 146, 3000, ca 1, fu)] [] H_7 locs_7 → va_at (dC, dI) vwCl (H_4.size, .inl (ca 1, nq_5, .inl fq_7)) H_7 → jKe G0 G0 s.heap H_7 → (0 ≤ v3_7.toInt ∧ v3_7.toInt ≤ 3000 ∧ (∀ j : Int, 0 ≤ j → j < v3_7.toInt → jSo fq_7 j = jqA T9 pv.toInt a1.toInt j)) → (3001 - v3_7.toInt : Int) < N → ∀ ls : Array Slot, lv_has ls 4 [(0, .ref r0), (1, .int a1), (2, .ref H_4.size), (3, .int v3_7)] → W p l e R s m ([.ref r0, .int a1] : List Value).toArray below meth c H_7 locs_7 (0 + 1) (0 + nq_5) Q (F0 m 28 ls []) := by
      intro N
      induction N with
      | zero => intro fq_7 v3_7 H_7 locs_7 hh_7 hraw_7 hkp_7 hi_7 hm; exact absurd hm (by omega)
      | succ N L28 =>
        intro fq_7 v3_7 H_7 locs_7 hh_7 hraw_7 hkp_7 hi_7 hm_7 ls hl
        obtain ⟨hi_7_0, hi_7_1, hi_7_2⟩ := hi_7
        refine lv_iload_n hx hb dX4_unitsOf_28 rfl (lv_at hl 3 rfl) ?_
        refine lv_aload_n hx hb dX4_unitsOf_29 rfl (lv_at hl 2 rfl) ?_
        refine j7_lenR hx hb hK hraw_7 1 rfl (by omega) dX4_unitsOf_30 (fun z_8 hz_8 => ?_)
        refine lv_icmp_ge (tgt := 49) hx hb dX4_unitsOf_31 (by decide) (fun c_9 => ?_) (fun c_9 => ?_)
        · skip
          have c_9' : v3_7.toInt ≥ z_8.toInt := jb_ge (rfl) (rfl) c_9
          refine lv_aload_n hx hb dX4_unitsOf_49 rfl (lv_at hl 2 rfl) ?_
          have hsz_10 := hh_7.2.2.2.2.2.1
          have htt_10 := hh_7.2.2.2.2.2.2.1
          refine W.room (fun hrc_10 hrs_10 => ?_)
          refine W.widen (k := LC - s.heap.size) (n := LS - jTot s.heap) (by omega) (by omega) ?_
          rw [hQ]
          have hle_11 : jLe G0 (va_up G0 H_4.size (some (174, nq_5))) := jLe.typ hnr_5
          have hh_11 := hh_7.typ (k := 174) (n := nq_5) hB hnr_5 hbr_5 hraw_7.lt (jAr.of hB174 hraw_7 ((fun _ _ => trivial)))
          have hgn_11 : (va_up G0 H_4.size (some (174, nq_5))) H_4.size = some (174, nq_5) := jUp_self
          have hN_11 : (jNk [0, 1, 2, 3, 4, 5, 6, 7, 8, 9, 10, 11, 12, 13, 14, 15, 16, 17, 175]) G0 (va_up G0 H_4.size (some (174, nq_5))) := jNk.new (by decide)
          have hNn_11 : (jNk [0, 1, 2, 3, 4, 5, 6, 7, 8, 9, 10, 11, 12, 13, 14, 15, 16, 17, 175]) G0 (va_up G0 H_4.size (some (174, nq_5))) := (jNk.rf).tr hN_11
          have hkp_12 := hkp_7.typn (t := some (174, nq_5)) hsy_5
          exact W.aret (v := .ref H_4.size) hx hb hr (Or.inr ⟨_, rfl⟩) (Or.inr ⟨_, rfl⟩) (fun t ht hW => ⟨⟨.ref H_4.size, (H_4.size, nq_5, (va_up G0 H_4.size (some (174, nq_5)))), rfl, ⟨rfl, ⟨_, rfl, hgn_11⟩, ⟨_, rfl, hsy_5⟩, by skip; (try dsimp only); exact ⟨by omega, by have h9 := hi_4_2; omega⟩⟩, ⟨hh_11.ra (by first | (simp only; omega) | omega) (by first | (simp only; omega) | omega) (M1 := []) [] rfl ht, hNn_11, ⟨_, by rw [ht]; exact hraw_7, fun j h0 h1 => hi_7_2 j h0 (by (try dsimp only at h1); omega)⟩, by rw [ht]; exact hkp_12⟩⟩, by rw [ht]; try exact hh_11.1.1, fun q h9 hq => by rw [ht]; try exact hh_11.1.2.1 q h9 hq⟩) hh_11.1.2.2 dX4_unitsOf_50
        · skip
          have c_9' : v3_7.toInt < z_8.toInt := jb_ge_n (rfl) (rfl) c_9
          refine lv_aload_n hx hb dX4_unitsOf_34 rfl (lv_at hl 2 rfl) ?_
          refine lv_iload_n hx hb dX4_unitsOf_35 rfl (lv_at hl 3 rfl) ?_
          refine lv_aload_n hx hb dX4_unitsOf_36 rfl (lv_at hl 0 rfl) ?_
          refine lv_iload_n hx hb dX4_unitsOf_37 rfl (lv_at hl 1 rfl) ?_
          refine lv_iload_n hx hb dX4_unitsOf_38 rfl (lv_at hl 3 rfl) ?_
          have hsz_13 := hh_7.2.2.2.2.2.1
          have htt_13 := hh_7.2.2.2.2.2.2.1
          refine W.room (fun hrc_13 hrs_13 => ?_)
          refine va_calli (A0 := jA base) (H0 := s.heap) (va_runV (As := [.int a1, .int v3_7]) (rest := [.int v3_7, .ref H_4.size]) ⟨hx, hb, hml, hown, hts⟩ (uX4_unitAtJ l dC dI ca base B hB hAp hB6 hB140 hB141 hB142 hB146 G0 H_7 r0 a1 v3_7 pv pu wk wi wz jnx jkf jks jun T9 fk fi fz fn fa fs fu) (cwV 2 hts (jgV (jWr_25 _ (List.mem_of_getElem? (i := 4) rfl)) (jWr_25 _ (List.mem_of_getElem? (i := 5) rfl)) (jWr_25 _ (List.mem_of_getElem? (i := 6) rfl)) (jWr_1 _ (List.mem_of_getElem? (i := 22) rfl)) (jWr_25 _ (List.mem_of_getElem? (i := 7) rfl))) rfl rfl rfl (by decide +kernel) ⟨by rw [← hR]; exact Nat.le_of_ble_eq_true rfl, by rw [← hR]; exact Nat.le_of_ble_eq_true rfl⟩) ⟨fun a U g mk q => by obtain ⟨q0, q1, q2, qK, q10, q11, q12, q13, q14, q15, q16, q17, q18, q19, q20⟩ := q; exact ⟨q0, q1, q2, jG.calling g mk a qK, q10, q11, q12, q13, q14, q15, q16, q17, q18, q19, q20⟩, hh_7.recv (C := RX4) (T := TX4) (N := 12) hB6 rfl (by decide) hg_r0 hK, fun U hU hW => ⟨rfl, hU, hh_7.2.1, hG.step hW hU hh_7.1, hg_r0, hg_wk, hg_wi, hg_wz, hg_jnx, hg_jkf, hg_jks, hg_jun, (hh_7.2.2.1.sub (L1 := [(r0, 6, 7, .int pv), (r0, 6, 8, .int pu), (r0, 6, 0, .ref wk), (r0, 6, 1, .ref wi), (r0, 6, 2, .ref wz), (r0, 6, 3, .ref jnx), (r0, 6, 4, .ref jkf), (r0, 6, 5, .ref jks), (r0, 6, 6, .ref jun)]) [0, 1, 2, 3, 4, 5, 6, 7, 8] rfl), (hh_7.2.2.2.2.2.2.2.1.sub (L1 := [(wk, 140, 1502, ca 1, fk), (wi, 141, 1502, ca 1, fi), (wz, 142, 1502, ca 1, fz), (jnx, 143, 1502, ca 1, fn), (jkf, 144, 1502, ca 1, fa), (jks, 145, 1502, ca 1, fs), (jun, 146, 3000, ca 1, fu)]) [0, 1, 2, 3, 4, 5, 6] rfl), by first | omega | (refine ⟨?_, ?_, ?_, ?_, ?_, ?_, ?_⟩ <;> (first | omega | rfl | assumption | decide | exact Or.inl rfl | exact Or.inr rfl | (simp only; omega)))⟩⟩ rfl rfl hl.1 rfl (lv_room (Nat.le_of_ble_eq_true rfl)) dX4_unitsOf_39 ⟨by rw [hRc]; show _ + 0 ≤ _; omega, by rw [hRs]; show _ + 0 ≤ _; omega⟩) hh_7.1 (fun q _ h => h) (fun q h => h) (fun r_14 u_13 t_13 H_13 locs_13 ht_13 hvm_13 hr_14 hb_13 hz_13 hk_13 hS_13 => ?_)
          rw [ht_13] at hb_13
          obtain ⟨hb_13, hbF_13⟩ := hb_13
          obtain ⟨hb_131, hb_132, hb_133, hb_134, hb_135⟩ := hb_13
          have hh_13 : jSt (dC, dI) B base G0 G0 EX4_unitsOfU s.heap (0 + 1) (0 + nq_5) [(r0, 6, 7, .int pv), (r0, 6, 8, .int pu), (r0, 6, 0, .ref wk), (r0, 6, 1, .ref wi), (r0, 6, 2, .ref wz), (r0, 6, 3, .ref jnx), (r0, 6, 4, .ref jkf), (r0, 6, 5, .ref jks), (r0, 6, 6, .ref jun)] [(wk, 140, 1502, ca 1, fk), (wi, 141, 1502, ca 1, fi), (wz, 142, 1502, ca 1, fz), (jnx, 143, 1502, ca 1, fn), (jkf, 144, 1502, ca 1, fa), (jks, 145, 1502, ca 1, fs), (jun, 146, 3000, ca 1, fu)] [] H_13 locs_13 := ((hh_7.call hb_131 hb_132 hb_133 hb_134 hS_13 rfl (L1 := [(r0, 6, 7, .int pv), (r0, 6, 8, .int pu), (r0, 6, 0, .ref wk), (r0, 6, 1, .ref wi), (r0, 6, 2, .ref wz), (r0, 6, 3, .ref jnx), (r0, 6, 4, .ref jkf), (r0, 6, 5, .ref jks), (r0, 6, 6, .ref jun)]) [0, 1, 2, 3, 4, 5, 6, 7, 8] rfl rfl (M1 := [(wk, 140, 1502, ca 1, fk), (wi, 141, 1502, ca 1, fi), (wz, 142, 1502, ca 1, fz), (jnx, 143, 1502, ca 1, fn), (jkf, 144, 1502, ca 1, fa), (jks, 145, 1502, ca 1, fs), (jun, 146, 3000, ca 1, fu)]) [0, 1, 2, 3, 4, 5, 6] rfl rfl (I1 := []) [] rfl rfl).more hb_135)
          clear hh_7 ht_13 hvm_13 hz_13 hk_13 hS_13 hb_131 hb_132 hb_133 hb_134 hb_135
          have hraw_15 := hraw_7.kept (hbF_13 _ (by simp))
          have hkp_16 := hkp_7.fl hbF_13 (by intro q h9; simp at h9)
          refine j7_iastR hx hb hK hh_13 hB hraw_15 hnr_5 hbr_5 1 rfl (x := v3_7.toInt) (rfl) (by omega) dX4_unitsOf_42 (fun H_17 locs_17 hraw_17 hr_17 hh_17 => ?_)
          have hkp_18 := hkp_16.st hsy_5 hr_17
          clear hr_17
          clear hh_13
          obtain ⟨z_19, ez_19⟩ : ∃ y : Int32, y = v3_7 + 1 := ⟨_, rfl⟩
          refine lv_iinc (v := z_19) (lv' := [(3, .int z_19), (0, .ref r0), (1, .int a1), (2, .ref H_4.size)]) hx hb dX4_unitsOf_43 hl (k := 3) rfl (by rw [ez_19]; rfl) (by decide) rfl (fun ls hl => ?_)
          have hz_19 : z_19.toInt = v3_7.toInt + 1 := by rw [ez_19]; exact jb_iadd2 (rfl) (by decide) (by omega)
          refine lv_goto (tgt := 28) hx hb dX4_unitsOf_46 (by decide) ?_
          refine W.tight (c2 := (0 + 1)) (n2 := (0 + nq_5)) hh_17.2.2.2.2.2.1 hh_17.2.2.2.2.2.2.1 ?_
          exact L28 (upd fq_7 (v3_7.toInt).toNat r_14) z_19 _ _ hh_17 (hraw_17) (hkp_18) (by refine ⟨by omega, by omega, ?_⟩; exact jSo_upd hi_7_2 hr_14 (by omega) (by omega)) (by omega) _ (lv_sub hl [1, 2, 3, 0] rfl)
    refine W.tight (c2 := (0 + 1)) (n2 := (0 + nq_5)) hh_5.2.2.2.2.2.1 hh_5.2.2.2.2.2.2.1 ?_
    exact L28 (3001 - (0 : Int32).toInt : Int).toNat.succ (fun _ => 0) 0 _ _ hh_5 (hraw_5) (hkp_6) (by refine ⟨by omega, by omega, fun j h0 h1 => absurd h1 (by omega)⟩) (by omega) _ (lv_sub hl [2, 3, 1, 0] rfl)
  refine lv_icmp_ne (tgt := 22) hx hb dX4_unitsOf_6 (by decide) (fun c_20 => ?_) (fun c_20 => ?_)
  · skip
    have c_20' : r_2.toInt ≠ 3 := jb_ne (rfl) ((by decide)) c_20
    try clear hr_2_0
    refine lv_iconst (v := 0) hx hb dX4_unitsOf_22 (by decide) ?_
    refine W.tight (c2 := 0) (n2 := 0) hh_1.2.2.2.2.2.1 hh_1.2.2.2.2.2.2.1 ?_
    exact C23 0 _ _ hh_1 (hkp_3) (⟨(by first | omega | rfl | assumption | (rw [if_pos (by rw [← hr_2_1]; omega), hp4.2.2.1 _ hka.1 hka.2.1, ← (zz_none)]; omega) | (rw [if_neg (by rw [← hr_2_1]; omega)]; exact hk0)), (by first | omega | rfl | assumption | (rw [if_pos (by rw [← hr_2_1]; omega), hp4.2.2.1 _ hka.1 hka.2.1, ← (zz_none)]; omega) | (rw [if_neg (by rw [← hr_2_1]; omega)]; exact hk0)), (by first | assumption | (rw [if_pos (by rw [← hr_2_1]; omega), hp4.2.2.1 _ hka.1 hka.2.1, ← (zz_none)]; omega) | (rw [if_neg (by rw [← hr_2_1]; omega)]; exact hk0) | omega)⟩) _ (lv_sub hl [0, 1] rfl)
  · skip
    have c_20' : r_2.toInt = 3 := jb_ne_n (rfl) ((by decide)) c_20
    first | (have hr_2_0q := hr_2_0.resolve_left (by omega); clear hr_2_0) | (have hr_2_0q := hr_2_0.resolve_right (by omega); clear hr_2_0) | try clear hr_2_0
    have hka := jqK.p (T := T9) (v := pv.toInt) (i := a1.toInt) (by rw [← hr_2_1]; omega)
    have hr9 := (hp5 a1.toInt hka.1 hka.2.1).2 (by rw [← hp4.1 _ hka.1 hka.2.1, ← hka.2.2, ← hr_2_1]; omega)
    refine lv_aload_n hx hb dX4_unitsOf_9 rfl (lv_at hl 0 rfl) ?_
    refine j7_read hx hb hown hK (C := RX4) (T := TX4) (N := 12) rfl hly_6_2 hlk_18 (hh_1.at 4 rfl) dX4_unitsOf_10 ?_
    refine lv_iload_n hx hb dX4_unitsOf_13 rfl (lv_at hl 1 rfl) ?_
    refine j7_ialdM hx hb hK hh_1 hB142 1 rfl (by decide) hg_wz (x := a1.toInt) (rfl) (by omega) (j := 2) rfl dX4_unitsOf_14 (fun z_21 ez_21 (hz_21 : True) => ?_)
    have hqz_21 : z_21.toInt = jSo fz (a1.toInt) := by unfold jSo; rw [ez_21]
    refine lv_iconst (v := 0) hx hb dX4_unitsOf_15 (by decide) ?_
    have hsz_22 := hh_1.2.2.2.2.2.1
    have htt_22 := hh_1.2.2.2.2.2.2.1
    refine W.room (fun hrc_22 hrs_22 => ?_)
    refine va_mmax hx hb (by rw [hml]; exact hl.1.symm) hown (htw (.methodLink RX4 86 Lib.Math.max.name) (jWr_25 _ (List.mem_of_getElem? (i := 3) rfl))) (htw (.static Lib.Math.max.name) (jWr_3 _ (List.mem_of_getElem? (i := 6) rfl))) (htw (.initialized "java/lang/Math") (jWr_3 _ (List.mem_of_getElem? (i := 7) rfl))) (htw (.code Lib.Math.max.name Lib.Math.max.code 2 (some .int)) (jWr_3 _ (List.mem_of_getElem? (i := 8) rfl))) (by rw [← hR]; exact Nat.le_of_ble_eq_true rfl) (by rw [← hR]; exact Nat.le_of_ble_eq_true rfl) (by rw [hRc]; omega) (by rw [hRs]; omega) dX4_unitsOf_16 ?_
    refine lv_topi (fun z_23 ez_23 => ?_)
    have hz_23 := jb_max ez_23
    refine lv_goto (tgt := 23) hx hb dX4_unitsOf_19 (by decide) ?_
    refine W.tight (c2 := 0) (n2 := 0) hh_1.2.2.2.2.2.1 hh_1.2.2.2.2.2.2.1 ?_
    exact C23 z_23 _ _ hh_1 (hkp_3) (⟨(by first | omega | rfl | assumption | (rw [if_pos (by rw [← hr_2_1]; omega), hp4.2.2.1 _ hka.1 hka.2.1, ← hqz_21]; omega) | (rw [if_neg (by rw [← hr_2_1]; omega)]; exact hk0)), (by first | omega | rfl | assumption | (rw [if_pos (by rw [← hr_2_1]; omega), hp4.2.2.1 _ hka.1 hka.2.1, ← hqz_21]; omega) | (rw [if_neg (by rw [← hr_2_1]; omega)]; exact hk0)), (by first | assumption | (rw [if_pos (by rw [← hr_2_1]; omega), hp4.2.2.1 _ hka.1 hka.2.1, ← hqz_21]; omega) | (rw [if_neg (by rw [← hr_2_1]; omega)]; exact hk0) | omega)⟩) _ (lv_sub hl [0, 1] rfl)
end
