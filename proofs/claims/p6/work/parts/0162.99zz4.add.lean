section
def EJ7_copyOf_6403cL2 : List (Nat × Nat) := []
def EJ7_copyOf_1904cL2 : List (Nat × Nat) := []
def EJx4a65c_grow_92f84E2 : List (Nat × Nat) := [(1, 1)]
def EJx4a65c_grow_92f84L2 : List (Nat × Nat) := [(1, 1)]
def EJx4a65c_grow_d5877E2 : List (Nat × Nat) := [(1, 1)]
def EJx4a65c_grow_d5877L2 : List (Nat × Nat) := [(1, 1)]
def EJx4a65c_add_72be8E2 : List (Nat × Nat) := [(1, 1), (1, 2), (222, 0)]
def EJx4a65c_add_72be8L2 : List (Nat × Nat) := [(1, 1), (1, 2), (222, 0)]
def EJx4a65c_add_9ea2dL2 : List (Nat × Nat) := [(1, 0), (1, 1), (1, 2), (222, 0)]
set_option maxHeartbeats 4000000 in
set_option maxRecDepth 20000 in
theorem uJ7_copyOf_6403cL2 (l : Launch) (dC : Nat → ClassId) (dI : Nat → Nat → Nat) (ca : Nat → ClassId) (base : Nat) (B : jF) (hB : jBok B) (hAp : jAp (dC, dI)) (hB10 : ∀ n G a H, B 10 n G a H ↔ jOb (dC, dI) 10 5 (F10 n G) a H) (hB222 : ∀ n G a H, B 222 n G a H ↔ jAq (dC, dI) (ca 9) (jQn 10 0) n G a H) (G0 : jT) (H0 : Heap) (r0 : Nat) (a1 : Int32) (n0 : Nat) (fq : Nat → Option Nat) (LC LS : Nat) : Met l yJ7_copyOf_6403c (jw yJ7_copyOf_6403c cJ7_copyOf_6403c 4 (some (.array (.object "java/lang/Object")))) ({ frames := 1, cells := LC - H0.size, slots := LS - jTot H0, locals := 61 }) (va_Pc [.ref r0, .int a1, .ref (dI 99 1)] (fun U => U.heap = H0 ∧ jX B base G0 [] H0 ∧ jG dC dI ca base U ∧ jK7 dC dI ca base U ∧ G0 r0 = some (222, n0) ∧ jP (dC, dI) G0 H0 [] ∧ jIs (dC, dI) G0 H0 [([(222, 0)], jQc dC dI (ca 9) r0 n0 fq)] ∧ H0.size + 1 ≤ LC ∧ jTot H0 + a1.toInt.toNat ≤ LS ∧ n0 ≤ 40 ∧ n0 ≤ a1.toInt ∧ a1.toInt ≤ 40)) (jQx (S := Nat × Nat × jT) (fun v u => v = .ref u.1 ∧ jRf u.2.2 222 u.2.1 v ∧ jNwv v H0 ∧ u.2.1 = a1.toInt) (fun u t => jRa (dC, dI) B base G0 u.2.2 EJ7_copyOf_6403cL2 H0 (1) (u.2.1) [] t.heap ∧ (jNk [0, 1, 2, 3, 4, 5, 6, 7, 8, 9, 10, 11, 12, 13, 14, 15, 16, 17, 175]) G0 u.2.2 ∧ (∃ f : Nat → Option Nat, jQc dC dI (ca 9) u.1 u.2.1 f t.heap ∧ (∀ j, j < n0 → f j = fq j)) ∧ jKe G0 u.2.2 H0 t.heap) (jA base)) (LC - H0.size) (LS - jTot H0) (jA base) := by
  refine Met.ofW (cc := cJ7_copyOf_6403c) (maxL := 4) (ret := (some (.array (.object "java/lang/Object")))) (by decide) rfl ?_
  intro p e s m args below meth c s₁ Bd hml hv
  obtain ⟨rfl, hH0, hX, hG, hK7, hg_r0, hP0, hI0, hLC0, hLS0, hp0, hp1, hp2⟩ := hv
  have hK := hG.1
  have hx := Bd.exec
  have hb := Bd.bytes
  have hr := Bd.returns
  have hts := atoms_spec (ws := (jw yJ7_copyOf_6403c cJ7_copyOf_6403c 4 (some (.array (.object "java/lang/Object"))))) Bd.pre
  have htw : ∀ w ∈ jWl, w.before _ s = true := fun w h => hts w (List.mem_cons_of_mem _ h)
  have hown : s.vm.findClass RJ7 = some m.cls := findClass_of_methodNamed Bd.named
  have hlocks := Bd.notSynchronized
  obtain ⟨Q, hQ⟩ : ∃ Q, Q = MQ below (jQx (S := Nat × Nat × jT) (fun v u => v = .ref u.1 ∧ jRf u.2.2 222 u.2.1 v ∧ jNwv v H0 ∧ u.2.1 = a1.toInt) (fun u t => jRa (dC, dI) B base G0 u.2.2 EJ7_copyOf_6403cL2 H0 (1) (u.2.1) [] t.heap ∧ (jNk [0, 1, 2, 3, 4, 5, 6, 7, 8, 9, 10, 11, 12, 13, 14, 15, 16, 17, 175]) G0 u.2.2 ∧ (∃ f : Nat → Option Nat, jQc dC dI (ca 9) u.1 u.2.1 f t.heap ∧ (∀ j, j < n0 → f j = fq j)) ∧ jKe G0 u.2.2 H0 t.heap) (jA base)) ([.ref r0, .int a1, .ref (dI 99 1)] : List Value).toArray s (LC - H0.size) (LS - jTot H0) (jA base) := ⟨_, rfl⟩
  rw [← hQ]
  have hl := lv_entry ([.ref r0, .int a1, .ref (dI 99 1)]) (n := 4) (Nat.le_of_ble_eq_true rfl)
  rw [lg_entry_eq]
  generalize (lg_sl ([.ref r0, .int a1, .ref (dI 99 1)]) ++ List.replicate (4 - (lg_sl ([.ref r0, .int a1, .ref (dI 99 1)])).length) Slot.unset).toArray = ls at hl ⊢
  have hl : lv_has ls 4 [(0, .ref r0), (1, .int a1), (2, .ref (dI 99 1))] := hl
  generalize hR : (headSpec (jw yJ7_copyOf_6403c cJ7_copyOf_6403c 4 (some (.array (.object "java/lang/Object")))) ({ frames := 1, cells := LC - H0.size, slots := LS - jTot H0, locals := 61 })).room = R
  subst hH0
  have hh : jSt (dC, dI) B base G0 G0 EJ7_copyOf_6403cL2 s.heap 0 0 [] [] [([(222, 0)], jQc dC dI (ca 9) r0 n0 fq)] s.heap [] := jSt.start hX hP0 jMc.nil hI0
  clear hX hP0
  have hk0 : (0 : Int32).toInt = 0 := by decide
  have hk1 : (1 : Int32).toInt = 1 := by decide
  have hrg_a1 := jb_rng a1
  have hbs : base ≤ s.heap.size := Nat.le_of_lt (Nat.lt_of_le_of_lt (hh.ab hg_r0).1 (hh.ab hg_r0).2)
  have hRc : R.cells = LC - s.heap.size := by rw [← hR]; rfl
  have hRs : R.slots = LS - jTot s.heap := by rw [← hR]; rfl
  have hkp : jKe G0 G0 s.heap s.heap := jKe.rf
  refine lv_aload_n hx hb dJ7_copyOf_6403c_0 rfl (lv_at hl 2 rfl) ?_
  refine va_ldcM hx hb hown (htw (.classLink RJ7 110 "[Ljava/lang/Object;") (jWr_34 _ (List.mem_of_getElem? (i := 22) rfl))) hK7.2.2.2.1 dJ7_copyOf_6403c_1 ?_
  refine lv_acmp_ne (rx := (some (dI 99 1))) (ry := (some (dI 99 1))) (tgt := 13) hx hb dJ7_copyOf_6403c_3 (by decide) (fun c_1 => ?_) (fun c_1 => ?_)
  · skip
    exact absurd rfl c_1
  · skip
    refine lv_iload_n hx hb dJ7_copyOf_6403c_6 rfl (lv_at hl 1 rfl) ?_
    have hsz_2 := hh.2.2.2.2.2.1
    have htt_2 := hh.2.2.2.2.2.2.1
    have hsy_2 : s.heap.size ≤ s.heap.size := hh.1.1
    refine j7_newqR hx hb hown (htw (.classLink RJ7 2 "java/lang/Object") (jWr_34 _ (List.mem_of_getElem? (i := 23) rfl))) hK7.2.1 hK7.1 hh hB 0 rfl (x := a1.toInt) rfl (by omega) (by rw [hRc]; omega) (by rw [hRs]; omega) dJ7_copyOf_6403c_7 (fun H_2 hfr_2 hnr_2 hraw_2 hh_2 => ?_)
    have hke_2 : jKe G0 G0 s.heap H_2 := jKe.raw hfr_2
    have hbr_2 : base ≤ s.heap.size := Nat.le_trans hbs hsy_2
    obtain ⟨nq_2, hnq_2⟩ : ∃ q : Nat, q = (a1.toInt).toNat := ⟨_, rfl⟩
    rw [← hnq_2] at hraw_2 hh_2 ⊢
    clear hh
    have hkp_3 := hkp.tr hke_2
    refine lv_goto (tgt := 24) hx hb dJ7_copyOf_6403c_10 (by decide) ?_
    refine lv_astore_n (lv' := [(3, .ref s.heap.size), (0, .ref r0), (1, .int a1), (2, .ref (dI 99 1))]) hx hb dJ7_copyOf_6403c_24 rfl hl (by decide) rfl (fun ls hl => ?_)
    refine lv_aload_n hx hb dJ7_copyOf_6403c_25 rfl (lv_at hl 1 rfl) ?_
    refine lv_iconst (v := 0) hx hb dJ7_copyOf_6403c_26 (by decide) ?_
    refine lv_aload_n hx hb dJ7_copyOf_6403c_27 rfl (lv_at hl 0 rfl) ?_
    refine lv_iconst (v := 0) hx hb dJ7_copyOf_6403c_28 (by decide) ?_
    refine lv_aload_n hx hb dJ7_copyOf_6403c_29 rfl (lv_at hl 1 rfl) ?_
    refine j7_qlen hx hb hK7.1 hh_2 hB222 0 rfl (by decide) hg_r0 (by omega) dJ7_copyOf_6403c_30 (fun z_4 hz_4 => ?_)
    refine lv_iload_n hx hb dJ7_copyOf_6403c_31 rfl (lv_at hl 2 rfl) ?_
    have hsz_5 := hh_2.2.2.2.2.2.1
    have htt_5 := hh_2.2.2.2.2.2.2.1
    refine W.room (fun hrc_5 hrs_5 => ?_)
    refine va_mmin hx hb (by rw [hml]; exact hl.1.symm) hown (htw (.methodLink RJ7 304 Lib.Math.min.name) (jWr_16 _ (List.mem_of_getElem? (i := 15) rfl))) (htw (.static Lib.Math.min.name) (jWr_16 _ (List.mem_of_getElem? (i := 16) rfl))) (htw (.initialized "java/lang/Math") (jWr_3 _ (List.mem_of_getElem? (i := 7) rfl))) (htw (.code Lib.Math.min.name Lib.Math.min.code 2 (some .int)) (jWr_16 _ (List.mem_of_getElem? (i := 17) rfl))) (by rw [← hR]; exact Nat.le_of_ble_eq_true rfl) (by rw [← hR]; exact Nat.le_of_ble_eq_true rfl) (by rw [hRc]; omega) (by rw [hRs]; omega) dJ7_copyOf_6403c_32 ?_
    refine lv_topi (fun z_6 ez_6 => ?_)
    have hz_6 := jb_min ez_6
    refine j7_qcopyR hx hb (by rw [hml]; exact hl.1.symm) hown (htw (.methodLink RJ7 150 arraycopyName) (jWr_16 _ (List.mem_of_getElem? (i := 18) rfl))) (htw (.native arraycopyName) (jWr_16 _ (List.mem_of_getElem? (i := 19) rfl))) (htw (.static arraycopyName) (jWr_16 _ (List.mem_of_getElem? (i := 20) rfl))) (htw (.initialized "java/lang/System") (jWr_16 _ (List.mem_of_getElem? (i := 21) rfl))) hK hK7.1 hh_2 hB hB222 0 rfl (by decide) hg_r0 (hh_2.iv 0 rfl) hraw_2 hnr_2 hbr_2 hB10 (T := TX8) (N := 5) rfl (by decide) hK7.2.2.1.2.1.1 (x := 0) (y := 0) (z := z_6.toInt) (by decide) (by decide) rfl (by omega) (by rw [← hR]; exact Nat.le_of_ble_eq_true rfl) (by rw [← hR]; exact Nat.le_of_ble_eq_true rfl) dJ7_copyOf_6403c_35 (fun H_7 locs_7 gq_7 hc_7 hp_7 hraw_7 hr_7 hh_7 => ?_)
    have hkp_8 := hkp_3.st hsy_2 hr_7
    clear hr_7
    clear hh_2
    refine lv_aload_n hx hb dJ7_copyOf_6403c_38 rfl (lv_at hl 0 rfl) ?_
    have hsz_9 := hh_7.2.2.2.2.2.1
    have htt_9 := hh_7.2.2.2.2.2.2.1
    refine W.room (fun hrc_9 hrs_9 => ?_)
    refine W.widen (k := LC - s.heap.size) (n := LS - jTot s.heap) (by omega) (by omega) ?_
    rw [hQ]
    have hle_10 : jLe G0 (va_up G0 s.heap.size (some (222, nq_2))) := jLe.typ hnr_2
    have hh_10 := hh_7.typ (k := 222) (n := nq_2) hB hnr_2 hbr_2 hraw_7.lt (jAq.of hB222 hraw_7 (fun j hj => ((hp_7 (fun _ _ => Or.inl rfl)) j hj).up hle_10))
    have hgn_10 : (va_up G0 s.heap.size (some (222, nq_2))) s.heap.size = some (222, nq_2) := jUp_self
    have hN_10 : (jNk [0, 1, 2, 3, 4, 5, 6, 7, 8, 9, 10, 11, 12, 13, 14, 15, 16, 17, 175]) G0 (va_up G0 s.heap.size (some (222, nq_2))) := jNk.new (by decide)
    have hNn_10 : (jNk [0, 1, 2, 3, 4, 5, 6, 7, 8, 9, 10, 11, 12, 13, 14, 15, 16, 17, 175]) G0 (va_up G0 s.heap.size (some (222, nq_2))) := (jNk.rf).tr hN_10
    have hkp_11 := hkp_8.typn (t := some (222, nq_2)) hsy_2
    have hh_12 := hh_10.addI (jQc.ie hraw_7 hgn_10 (by decide) (by decide))
    clear hh_10
    exact W.aret (v := .ref s.heap.size) hx hb hr (Or.inr ⟨_, rfl⟩) (Or.inr ⟨_, rfl⟩) (fun t ht hW => ⟨⟨.ref s.heap.size, (s.heap.size, nq_2, (va_up G0 s.heap.size (some (222, nq_2)))), rfl, ⟨rfl, ⟨_, rfl, hgn_10⟩, ⟨_, rfl, hsy_2⟩, by (try dsimp only); first | omega | rfl | assumption | fail⟩, ⟨hh_12.ra (by first | omega | (simp only; omega)) (by first | omega | (simp only; omega)) (M1 := []) [] rfl ht, hNn_10, ⟨_, by rw [ht]; exact hh_12.iv 0 rfl, jQz hc_7 (by omega) (by omega) (by omega) (by omega)⟩, by rw [ht]; exact hkp_11⟩⟩, by rw [ht]; try exact hh_12.1.1, fun q h9 hq => by rw [ht]; try exact hh_12.1.2.1 q h9 hq⟩) hh_12.1.2.2 dJ7_copyOf_6403c_39
set_option maxHeartbeats 4000000 in
set_option maxRecDepth 20000 in
theorem uJ7_copyOf_1904cL2 (l : Launch) (dC : Nat → ClassId) (dI : Nat → Nat → Nat) (ca : Nat → ClassId) (base : Nat) (B : jF) (hB : jBok B) (hAp : jAp (dC, dI)) (hB10 : ∀ n G a H, B 10 n G a H ↔ jOb (dC, dI) 10 5 (F10 n G) a H) (hB222 : ∀ n G a H, B 222 n G a H ↔ jAq (dC, dI) (ca 9) (jQn 10 0) n G a H) (G0 : jT) (H0 : Heap) (r0 : Nat) (a1 : Int32) (n0 : Nat) (fq : Nat → Option Nat) (LC LS : Nat) : Met l yJ7_copyOf_1904c (jw yJ7_copyOf_1904c cJ7_copyOf_1904c 2 (some (.array (.object "java/lang/Object")))) ({ frames := 2, cells := LC - H0.size, slots := LS - jTot H0, locals := 84 }) (va_Pc [.ref r0, .int a1] (fun U => U.heap = H0 ∧ jX B base G0 [] H0 ∧ jG dC dI ca base U ∧ jK7 dC dI ca base U ∧ G0 r0 = some (222, n0) ∧ jP (dC, dI) G0 H0 [] ∧ jIs (dC, dI) G0 H0 [([(222, 0)], jQc dC dI (ca 9) r0 n0 fq)] ∧ H0.size + 1 ≤ LC ∧ jTot H0 + a1.toInt.toNat ≤ LS ∧ n0 ≤ 40 ∧ n0 ≤ a1.toInt ∧ a1.toInt ≤ 40)) (jQx (S := Nat × Nat × jT) (fun v u => v = .ref u.1 ∧ jRf u.2.2 222 u.2.1 v ∧ jNwv v H0 ∧ u.2.1 = a1.toInt) (fun u t => jRa (dC, dI) B base G0 u.2.2 EJ7_copyOf_1904cL2 H0 (1) (u.2.1) [] t.heap ∧ (jNk [0, 1, 2, 3, 4, 5, 6, 7, 8, 9, 10, 11, 12, 13, 14, 15, 16, 17, 175]) G0 u.2.2 ∧ (∃ f : Nat → Option Nat, jQc dC dI (ca 9) u.1 u.2.1 f t.heap ∧ (∀ j, j < n0 → f j = fq j)) ∧ jKe G0 u.2.2 H0 t.heap) (jA base)) (LC - H0.size) (LS - jTot H0) (jA base) := by
  refine Met.ofW (cc := cJ7_copyOf_1904c) (maxL := 2) (ret := (some (.array (.object "java/lang/Object")))) (by decide) rfl ?_
  intro p e s m args below meth c s₁ Bd hml hv
  obtain ⟨rfl, hH0, hX, hG, hK7, hg_r0, hP0, hI0, hLC0, hLS0, hp0, hp1, hp2⟩ := hv
  have hK := hG.1
  have hx := Bd.exec
  have hb := Bd.bytes
  have hr := Bd.returns
  have hts := atoms_spec (ws := (jw yJ7_copyOf_1904c cJ7_copyOf_1904c 2 (some (.array (.object "java/lang/Object"))))) Bd.pre
  have htw : ∀ w ∈ jWl, w.before _ s = true := fun w h => hts w (List.mem_cons_of_mem _ h)
  have hown : s.vm.findClass RJ7 = some m.cls := findClass_of_methodNamed Bd.named
  have hlocks := Bd.notSynchronized
  obtain ⟨Q, hQ⟩ : ∃ Q, Q = MQ below (jQx (S := Nat × Nat × jT) (fun v u => v = .ref u.1 ∧ jRf u.2.2 222 u.2.1 v ∧ jNwv v H0 ∧ u.2.1 = a1.toInt) (fun u t => jRa (dC, dI) B base G0 u.2.2 EJ7_copyOf_1904cL2 H0 (1) (u.2.1) [] t.heap ∧ (jNk [0, 1, 2, 3, 4, 5, 6, 7, 8, 9, 10, 11, 12, 13, 14, 15, 16, 17, 175]) G0 u.2.2 ∧ (∃ f : Nat → Option Nat, jQc dC dI (ca 9) u.1 u.2.1 f t.heap ∧ (∀ j, j < n0 → f j = fq j)) ∧ jKe G0 u.2.2 H0 t.heap) (jA base)) ([.ref r0, .int a1] : List Value).toArray s (LC - H0.size) (LS - jTot H0) (jA base) := ⟨_, rfl⟩
  rw [← hQ]
  have hl := lv_entry ([.ref r0, .int a1]) (n := 2) (Nat.le_of_ble_eq_true rfl)
  rw [lg_entry_eq]
  generalize (lg_sl ([.ref r0, .int a1]) ++ List.replicate (2 - (lg_sl ([.ref r0, .int a1])).length) Slot.unset).toArray = ls at hl ⊢
  have hl : lv_has ls 2 [(0, .ref r0), (1, .int a1)] := hl
  generalize hR : (headSpec (jw yJ7_copyOf_1904c cJ7_copyOf_1904c 2 (some (.array (.object "java/lang/Object")))) ({ frames := 2, cells := LC - H0.size, slots := LS - jTot H0, locals := 84 })).room = R
  subst hH0
  have hh : jSt (dC, dI) B base G0 G0 EJ7_copyOf_1904cL2 s.heap 0 0 [] [] [([(222, 0)], jQc dC dI (ca 9) r0 n0 fq)] s.heap [] := jSt.start hX hP0 jMc.nil hI0
  clear hX hP0
  have hk0 : (0 : Int32).toInt = 0 := by decide
  have hk1 : (1 : Int32).toInt = 1 := by decide
  have hrg_a1 := jb_rng a1
  have hbs : base ≤ s.heap.size := Nat.le_of_lt (Nat.lt_of_le_of_lt (hh.ab hg_r0).1 (hh.ab hg_r0).2)
  have hRc : R.cells = LC - s.heap.size := by rw [← hR]; rfl
  have hRs : R.slots = LS - jTot s.heap := by rw [← hR]; rfl
  have hkp : jKe G0 G0 s.heap s.heap := jKe.rf
  refine lv_aload_n hx hb dJ7_copyOf_1904c_0 rfl (lv_at hl 0 rfl) ?_
  refine lv_iload_n hx hb dJ7_copyOf_1904c_1 rfl (lv_at hl 1 rfl) ?_
  refine lv_aload_n hx hb dJ7_copyOf_1904c_2 rfl (lv_at hl 0 rfl) ?_
  refine j7_getC hx hb (by rw [hml]; exact hl.1.symm) hown (htw (.methodLink RJ7 86 ⟨"java/lang/Object", "getClass", "()Ljava/lang/Class;"⟩) (jWr_34 _ (List.mem_of_getElem? (i := 15) rfl))) (htw (.selects "[Ljava/lang/Object;" ⟨"java/lang/Object", "getClass", "()Ljava/lang/Class;"⟩ ⟨"java/lang/Object", "getClass", "()Ljava/lang/Class;"⟩) (jWr_34 _ (List.mem_of_getElem? (i := 16) rfl))) (htw (.instanceMethod ⟨"java/lang/Object", "getClass", "()Ljava/lang/Class;"⟩) (jWr_34 _ (List.mem_of_getElem? (i := 17) rfl))) (htw (.native ⟨"java/lang/Object", "getClass", "()Ljava/lang/Class;"⟩) (jWr_34 _ (List.mem_of_getElem? (i := 18) rfl))) hK7 hh hB222 (by decide) hg_r0 (by rw [← hR]; exact Nat.le_of_ble_eq_true rfl) (by rw [← hR]; exact Nat.le_of_ble_eq_true rfl) dJ7_copyOf_1904c_3 ?_
  have hsz_1 := hh.2.2.2.2.2.1
  have htt_1 := hh.2.2.2.2.2.2.1
  refine W.room (fun hrc_1 hrs_1 => ?_)
  refine j_callx (A0 := jA base) (H0 := s.heap) (va_runS (As := [.ref r0, .int a1, .ref (dI 99 1)]) (rest := []) ⟨hx, hb, hml, hown, hts⟩ (uJ7_copyOf_6403cL2 l dC dI ca base B hB hAp hB10 hB222 G0 s.heap r0 a1 n0 fq LC LS) (va_cwS 3 hts (jgS (jWr_34 _ (List.mem_of_getElem? (i := 19) rfl)) (jWr_34 _ (List.mem_of_getElem? (i := 20) rfl)) (jWr_16 _ (List.mem_of_getElem? (i := 7) rfl)) (jWr_34 _ (List.mem_of_getElem? (i := 21) rfl))) rfl rfl rfl (by decide +kernel) ⟨by rw [← hR]; exact Nat.le_of_ble_eq_true rfl, by rw [← hR]; exact Nat.le_of_ble_eq_true rfl⟩) ⟨fun a U g mk q => by obtain ⟨q0, q1, q2, qK, q10, q11, q12, q13, q14⟩ := q; exact ⟨q0, q1, q2, jG.calling g mk a qK, (jK7.calling g mk a q10), q11, q12, q13, q14⟩, fun U hU hW => ⟨rfl, hU, hh.2.1, hG.step hW hU hh.1, (hK7.step hW hU hh.1), hg_r0, jP.nil, (hh.2.2.2.2.2.2.2.2.sub (L1 := [([(222, 0)], jQc dC dI (ca 9) r0 n0 fq)]) [0] rfl), by first | omega | (refine ⟨?_, ?_, ?_⟩ <;> (first | omega | rfl | assumption | decide | exact Or.inl rfl | exact Or.inr rfl | (simp only; omega)))⟩⟩ rfl rfl hl.1 rfl (lv_room (Nat.le_of_ble_eq_true rfl)) dJ7_copyOf_1904c_6 ⟨by rw [hRc]; omega, by rw [hRs]; omega⟩) hh.1 (fun q _ h => h) (fun q h => h) (fun r_2 u_1 t_1 H_1 locs_1 ht_1 hvm_1 hr_2 hb_1 hz_1 hk_1 hS_1 => ?_)
  rw [ht_1] at hb_1
  obtain ⟨x_ret_1, m_ret_1, G_1⟩ := u_1
  simp only at hb_1
  obtain ⟨⟨hb_11, hb_12, hb_13, hb_14, hb_15, hb_16⟩, hN_1, hbQ_1, hbK_1⟩ := hb_1
  have hh_1 : jSt (dC, dI) B base G0 G_1 EJ7_copyOf_1904cL2 s.heap (0 + (1)) (0 + (m_ret_1)) [] [] [([(222, 0)], jQc dC dI (ca 9) r0 n0 fq)] H_1 locs_1 := (hh.callG hb_11 hb_12 hb_13 hb_14 hb_15 hS_1 rfl (L1 := []) [] rfl rfl (M1 := []) [] rfl rfl (I1 := [([(222, 0)], jQc dC dI (ca 9) r0 n0 fq)]) [0] rfl rfl).more hb_16
  have hNn_1 : (jNk [0, 1, 2, 3, 4, 5, 6, 7, 8, 9, 10, 11, 12, 13, 14, 15, 16, 17, 175]) G0 G_1 := (jNk.rf).tr hN_1
  have hg_3 := hb_12 _ _ hg_r0
  obtain ⟨rfl, hr_2, hr_2n, hr_2p⟩ := hr_2
  try simp only at hr_2p
  have hkp_5 := hkp.tr hbK_1
  have hgr_1 : G_1 x_ret_1 = some (222, m_ret_1) := by obtain ⟨y9, e9, h9⟩ := hr_2; cases e9; exact h9
  have hsy_1 : s.heap.size ≤ x_ret_1 := Nat.le_trans hh.1.1 hr_2n.le
  obtain ⟨fr_1, hqa_1, hqr_1⟩ := hbQ_1
  have hh_6 := hh_1.addI (jQc.ie hqa_1 hgr_1 (by decide) (by decide))
  clear hh_1
  have hsz_7 := hh_6.2.2.2.2.2.1
  have htt_7 := hh_6.2.2.2.2.2.2.1
  refine W.room (fun hrc_7 hrs_7 => ?_)
  refine W.widen (k := LC - s.heap.size) (n := LS - jTot s.heap) (by omega) (by omega) ?_
  rw [hQ]
  exact W.aret (v := .ref x_ret_1) hx hb hr (Or.inr ⟨_, rfl⟩) (Or.inr ⟨_, rfl⟩) (fun t ht hW => ⟨⟨.ref x_ret_1, (x_ret_1, m_ret_1, G_1), rfl, ⟨rfl, ⟨_, rfl, hgr_1⟩, ⟨_, rfl, hsy_1⟩, by (try dsimp only); first | omega | rfl | assumption | fail⟩, ⟨hh_6.ra (by first | omega | (simp only; omega)) (by first | omega | (simp only; omega)) (M1 := []) [] rfl ht, hNn_1, ⟨_, by rw [ht]; exact hh_6.iv 0 rfl, hqr_1⟩, by rw [ht]; exact hkp_5⟩⟩, by rw [ht]; try exact hh_6.1.1, fun q h9 hq => by rw [ht]; try exact hh_6.1.2.1 q h9 hq⟩) hh_6.1.2.2 dJ7_copyOf_1904c_9
set_option maxHeartbeats 4000000 in
set_option maxRecDepth 20000 in
theorem uJx4a65c_grow_92f84E2 (l : Launch) (dC : Nat → ClassId) (dI : Nat → Nat → Nat) (ca : Nat → ClassId) (base : Nat) (B : jF) (hB : jBok B) (hAp : jAp (dC, dI)) (hB1 : ∀ n G a H, B 1 n G a H ↔ jOb (dC, dI) 1 3 (F1 n G) a H) (hB10 : ∀ n G a H, B 10 n G a H ↔ jOb (dC, dI) 10 5 (F10 n G) a H) (hB222 : ∀ n G a H, B 222 n G a H ↔ jAq (dC, dI) (ca 9) (jQn 10 0) n G a H) (G0 : jT) (H0 : Heap) (r0 : Nat) (a1 : Int32) (lz : Int32) (wl : jWl9) (LC LS : Nat) : Met l yJx4a65c_grow_92f84 (jw yJx4a65c_grow_92f84 cJx4a65c_grow_92f84 4 (some (.array (.object "java/lang/Object")))) ({ frames := 3, cells := LC - H0.size, slots := LS - jTot H0, locals := 105 }) (va_Pc [.ref r0, .int a1] (fun U => U.heap = H0 ∧ jX B base G0 [] H0 ∧ jG dC dI ca base U ∧ jK7 dC dI ca base U ∧ G0 r0 = some (1, 2) ∧ jP (dC, dI) G0 H0 [(r0, 1, 1, .ref (dI 99 0)), (r0, 1, 2, .int lz)] ∧ jIs (dC, dI) G0 H0 [(jFl, jLs dC dI ca G0 3 none wl)] ∧ H0.size + 1 ≤ LC ∧ jTot H0 + 40 ≤ LS ∧ a1.toInt = 1 ∧ lz.toInt = 0)) (jQx (S := Nat × Nat × jT) (fun v u => v = .ref u.1 ∧ u.2.1 = 10) (fun u t => jRa (dC, dI) B base G0 u.2.2 EJx4a65c_grow_92f84E2 H0 (1) (40) [(r0, 1, 1, .ref u.1)] t.heap ∧ u.2.2 u.1 = some (222, u.2.1) ∧ (jNk [0, 1, 2, 3, 4, 5, 6, 7, 8, 9, 10, 11, 12, 13, 14, 15, 16, 17, 175]) G0 u.2.2 ∧ jIs (dC, dI) u.2.2 t.heap [(jFl, jLs dC dI ca u.2.2 3 none wl)]) (jA base)) (LC - H0.size) (LS - jTot H0) (jA base) := by
  refine Met.ofW (cc := cJx4a65c_grow_92f84) (maxL := 4) (ret := (some (.array (.object "java/lang/Object")))) (by decide) rfl ?_
  intro p e s m args below meth c s₁ Bd hml hv
  obtain ⟨rfl, hH0, hX, hG, hK7, hg_r0, hP0, hI0, hLC0, hLS0, hp0, hp1⟩ := hv
  have hK := hG.1
  have hx := Bd.exec
  have hb := Bd.bytes
  have hr := Bd.returns
  have hts := atoms_spec (ws := (jw yJx4a65c_grow_92f84 cJx4a65c_grow_92f84 4 (some (.array (.object "java/lang/Object"))))) Bd.pre
  have htw : ∀ w ∈ jWl, w.before _ s = true := fun w h => hts w (List.mem_cons_of_mem _ h)
  have hown : s.vm.findClass RJx4a65c = some m.cls := findClass_of_methodNamed Bd.named
  have hlocks := Bd.notSynchronized
  obtain ⟨Q, hQ⟩ : ∃ Q, Q = MQ below (jQx (S := Nat × Nat × jT) (fun v u => v = .ref u.1 ∧ u.2.1 = 10) (fun u t => jRa (dC, dI) B base G0 u.2.2 EJx4a65c_grow_92f84E2 H0 (1) (40) [(r0, 1, 1, .ref u.1)] t.heap ∧ u.2.2 u.1 = some (222, u.2.1) ∧ (jNk [0, 1, 2, 3, 4, 5, 6, 7, 8, 9, 10, 11, 12, 13, 14, 15, 16, 17, 175]) G0 u.2.2 ∧ jIs (dC, dI) u.2.2 t.heap [(jFl, jLs dC dI ca u.2.2 3 none wl)]) (jA base)) ([.ref r0, .int a1] : List Value).toArray s (LC - H0.size) (LS - jTot H0) (jA base) := ⟨_, rfl⟩
  rw [← hQ]
  have hl := lv_entry ([.ref r0, .int a1]) (n := 4) (Nat.le_of_ble_eq_true rfl)
  rw [lg_entry_eq]
  generalize (lg_sl ([.ref r0, .int a1]) ++ List.replicate (4 - (lg_sl ([.ref r0, .int a1])).length) Slot.unset).toArray = ls at hl ⊢
  have hl : lv_has ls 4 [(0, .ref r0), (1, .int a1)] := hl
  generalize hR : (headSpec (jw yJx4a65c_grow_92f84 cJx4a65c_grow_92f84 4 (some (.array (.object "java/lang/Object")))) ({ frames := 3, cells := LC - H0.size, slots := LS - jTot H0, locals := 105 })).room = R
  subst hH0
  have hh : jSt (dC, dI) B base G0 G0 EJx4a65c_grow_92f84E2 s.heap 0 0 [(r0, 1, 1, .ref (dI 99 0)), (r0, 1, 2, .int lz)] [] [(jFl, jLs dC dI ca G0 3 none wl)] s.heap [] := jSt.start hX hP0 jMc.nil hI0
  clear hX hP0
  have hk0 : (0 : Int32).toInt = 0 := by decide
  have hk1 : (1 : Int32).toInt = 1 := by decide
  have hk10 : (10 : Int32).toInt = 10 := by decide
  have hly_1_1 := htw (u_lay RJx4a65c TJx4a65c 1) (jWc_wsJx4a65c0 _ (u_in_lay (by decide)))
  have hlk_9 := (htw (.fieldLink RJx4a65c 9 "java/util/ArrayList" "elementData" "[Ljava/lang/Object;") (jWr_9 _ (List.mem_of_getElem? (i := 15) rfl)))
  have hrg_a1 := jb_rng a1
  have hbs : base ≤ s.heap.size := Nat.le_of_lt (Nat.lt_of_le_of_lt (hh.ab hg_r0).1 (hh.ab hg_r0).2)
  have hRc : R.cells = LC - s.heap.size := by rw [← hR]; rfl
  have hRs : R.slots = LS - jTot s.heap := by rw [← hR]; rfl
  obtain ⟨lz_1, lx_1, hl1_1, hl2_1, hl3_1, hl4_1⟩ := jLs.at (hh.iv 0 rfl) hg_r0
  obtain rfl : lz = lz_1 := Value.int.inj (jf.uniq (hh.at 1 rfl) hl1_1)
  have hl3_1 : 0 ≤ lz.toInt ∧ lz.toInt ≤ 12 := hl3_1
  obtain rfl : (dI 99 0) = lx_1 := Value.ref.inj (jf.uniq (hh.at 0 rfl) hl2_1)
  rcases hl4_1 with ⟨hl9_1, hl5_1, hl0_1, hlE_1⟩ | ⟨lm_1, lf_1, hg_lx_1, hlm_1, hl6_1, hl7_1, hl8_1, hlw_1, hlY_1⟩
  · skip
    have hd_2 := jLs.less (hh.iv 0 rfl) r0
    have hh_3 := hh.sub (L1 := [(r0, 1, 1, .ref (dI 99 0)), (r0, 1, 2, .int lz)]) [0, 1] rfl (M1 := []) [] rfl (I1 := []) [] rfl
    clear hh
    have hh_4 := hh_3.addI (jLs.ie hd_2)
    clear hh_3
    refine lv_aload_n hx hb dJx4a65c_grow_92f84_0 rfl (lv_at hl 0 rfl) ?_
    refine j7_read hx hb hown hK (C := RJx4a65c) (T := TJx4a65c) (N := 3) rfl hly_1_1 hlk_9 (hh_4.at 0 rfl) dJx4a65c_grow_92f84_1 ?_
    refine va_tlen hx hb hK7.2.2.2.2.2.2.2 hh_4.1 (v := Int32.ofNat 0) rfl dJx4a65c_grow_92f84_4 ?_
    refine lv_topi (fun z_5 ez_5 => ?_)
    have hz_5 : z_5.toInt = 0 := by rw [ez_5]; rfl
    refine lv_istore_n (lv' := [(2, .int z_5), (0, .ref r0), (1, .int a1)]) hx hb dJx4a65c_grow_92f84_5 rfl hl (by decide) rfl (fun ls hl => ?_)
    refine lv_iload_n hx hb dJx4a65c_grow_92f84_6 rfl (lv_at hl 0 rfl) ?_
    refine lv_if_gt (tgt := 20) hx hb dJx4a65c_grow_92f84_7 (by decide) (fun c_6 => ?_) (fun c_6 => ?_)
    · skip
      have c_6' : z_5.toInt > 0 := jb_gt (rfl) ((by decide)) c_6
      exact absurd c_6' (by omega)
    · skip
      have c_6' : z_5.toInt ≤ 0 := jb_gt_n (rfl) ((by decide)) c_6
      refine lv_aload_n hx hb dJx4a65c_grow_92f84_10 rfl (lv_at hl 1 rfl) ?_
      refine j7_read hx hb hown hK (C := RJx4a65c) (T := TJx4a65c) (N := 3) rfl hly_1_1 hlk_9 (hh_4.at 0 rfl) dJx4a65c_grow_92f84_11 ?_
      refine va_gets hx hb hK7.2.2.2.2.2.2.1 hh_4.1 hown (htw (.fieldLink RJx4a65c 39 "java/util/ArrayList" "DEFAULTCAPACITY_EMPTY_ELEMENTDATA" "[Ljava/lang/Object;") (jWr_9 _ (List.mem_of_getElem? (i := 14) rfl))) (fun _ h9 => h9) dJx4a65c_grow_92f84_14 ?_
      refine lv_acmp_eq (rx := (some (dI 99 0))) (ry := (some (dI 99 0))) (tgt := 45) hx hb dJx4a65c_grow_92f84_17 (by decide) (fun c_8 => ?_) (fun c_8 => ?_)
      · skip
        refine lv_aload_n hx hb dJx4a65c_grow_92f84_45 rfl (lv_at hl 1 rfl) ?_
        refine lv_bipush (v := 10) hx hb dJx4a65c_grow_92f84_46 (by decide) ?_
        refine lv_iload_n hx hb dJx4a65c_grow_92f84_48 rfl (lv_at hl 2 rfl) ?_
        have hsz_9 := hh_4.2.2.2.2.2.1
        have htt_9 := hh_4.2.2.2.2.2.2.1
        refine W.room (fun hrc_9 hrs_9 => ?_)
        refine va_mmax hx hb (by rw [hml]; exact hl.1.symm) hown (htw (.methodLink RJx4a65c 79 Lib.Math.max.name) (jWr_34 _ (List.mem_of_getElem? (i := 1) rfl))) (htw (.static Lib.Math.max.name) (jWr_3 _ (List.mem_of_getElem? (i := 6) rfl))) (htw (.initialized "java/lang/Math") (jWr_3 _ (List.mem_of_getElem? (i := 7) rfl))) (htw (.code Lib.Math.max.name Lib.Math.max.code 2 (some .int)) (jWr_3 _ (List.mem_of_getElem? (i := 8) rfl))) (by rw [← hR]; exact Nat.le_of_ble_eq_true rfl) (by rw [← hR]; exact Nat.le_of_ble_eq_true rfl) (by rw [hRc]; omega) (by rw [hRs]; omega) dJx4a65c_grow_92f84_49 ?_
        refine lv_topi (fun z_10 ez_10 => ?_)
        have hz_10 := jb_max ez_10
        have hsz_11 := hh_4.2.2.2.2.2.1
        have htt_11 := hh_4.2.2.2.2.2.2.1
        have hsy_11 : s.heap.size ≤ s.heap.size := hh_4.1.1
        refine j7_newqK hx hb hown (htw (.classLink RJx4a65c 7 "java/lang/Object") (jWr_34 _ (List.mem_of_getElem? (i := 2) rfl))) hK7.2.1 hK7.1 hh_4 hB hB222 0 rfl (by decide) hbs (x := z_10.toInt) rfl (by omega) (fun _ => Or.inl rfl) (by rw [hRc]; omega) (by rw [hRs]; omega) dJx4a65c_grow_92f84_52 (fun H_11 hfr_11 hh_11 hqn_11 => ?_)
        have hh_11 : jSt (dC, dI) B base G0 (va_up G0 s.heap.size (some (222, (z_10.toInt).toNat))) EJx4a65c_grow_92f84E2 s.heap (0 + 1) (0 + (z_10.toInt).toNat) [(r0, 1, 1, .ref (dI 99 0)), (r0, 1, 2, .int lz)] [] [(jFl, jLs dC dI ca G0 3 (some r0) wl)] H_11 [] := hh_11
        have hN_11 : (jNk [0, 1, 2, 3, 4, 5, 6, 7, 8, 9, 10, 11, 12, 13, 14, 15, 16, 17, 175]) G0 (va_up G0 s.heap.size (some (222, (z_10.toInt).toNat))) := jNk.new (by decide)
        have hgn_11 : (va_up G0 s.heap.size (some (222, (z_10.toInt).toNat))) s.heap.size = some (222, (z_10.toInt).toNat) := jUp_self
        have hle_11 : jLe G0 (va_up G0 s.heap.size (some (222, (z_10.toInt).toNat))) := jLe.new hh_4.2.1.fresh
        have hke_11 : jKe G0 (va_up G0 s.heap.size (some (222, (z_10.toInt).toNat))) s.heap H_11 := jKe.new hfr_11
        have hsy_11 : s.heap.size ≤ s.heap.size := hh_4.1.1
        generalize (va_up G0 s.heap.size (some (222, (z_10.toInt).toNat))) = G_11 at hN_11 hgn_11 hle_11 hke_11 hh_11
        generalize hnc_11 : (z_10.toInt).toNat = nc_11 at hgn_11 hh_11 ⊢
        clear hh_4
        have hNn_11 : (jNk [0, 1, 2, 3, 4, 5, 6, 7, 8, 9, 10, 11, 12, 13, 14, 15, 16, 17, 175]) G0 G_11 := (jNk.rf).tr hN_11
        have hg_12 := hle_11 _ _ hg_r0
        have hd_13 := jLs.grow (hh_11.iv 0 rfl) hle_11 hN_11 (by decide)
        have hh_14 := hh_11.sub (L1 := [(r0, 1, 1, .ref (dI 99 0)), (r0, 1, 2, .int lz)]) [0, 1] rfl (M1 := []) [] rfl (I1 := []) [] rfl
        clear hh_11
        have hh_15 := hh_14.addI (jLs.ie hd_13)
        clear hh_14
        refine lv_dup_x1 hx hb dJx4a65c_grow_92f84_55 rfl rfl ?_
        have hd_17 := hh_15.iv 0 rfl
        have hh_18 := hh_15.sub (L1 := [(r0, 1, 1, .ref (dI 99 0)), (r0, 1, 2, .int lz)]) [0, 1] rfl (M1 := []) [] rfl (I1 := []) [] rfl
        clear hh_15
        refine j7_putX hx hb hown hK hh_18 hB hAp hB1 (C := RJx4a65c) (T := TJx4a65c) (N := 3) rfl (by decide) hg_12 (i := 1) (by decide) hly_1_1 rfl hlk_9 rfl (ty := (.array (.object "java/lang/Object"))) (v := .ref s.heap.size) (by decide +kernel) rfl rfl (⟨_, rfl⟩) rfl (L1 := [(r0, 1, 2, .int lz)]) [1] rfl rfl rfl dJx4a65c_grow_92f84_56 (fun H_16 locs_16 hr_16 hh_16 => ?_)
        clear hh_18
        have hd_17n := jLs.fld hd_17 hg_12 hr_16
        have hh_19 := hh_16.addI (jLs.ie hd_17n)
        clear hh_16
        clear hd_17 hd_17n hr_16
        obtain ⟨fq_21, hfq_21a, hfq_21p⟩ := hh_19.aq hB222 (by decide) hgn_11
        have hd_20 := jLs.full (wn := wl) (hh_19.iv 0 rfl) hg_12 ⟨_, _, hh_19.at 1 rfl, hh_19.at 0 rfl, ⟨by omega, (show _ ≤ (12 : Int) by omega)⟩, Or.inr ⟨_, _, hgn_11, by omega, by omega, hfq_21a, (fun i h9 => absurd h9 (by omega)), (fun q => absurd q (by decide)), jWm.nil hlE_1 (by omega)⟩⟩ ⟨fun _ => ⟨rfl, rfl⟩, fun q => absurd rfl q, fun _ => rfl⟩
        have hh_22 := hh_19.sub (L1 := [(r0, 1, 1, .ref s.heap.size), (r0, 1, 2, .int lz)]) [0, 1] rfl (M1 := []) [] rfl (I1 := []) [] rfl
        clear hh_19
        have hh_23 := hh_22.addI (jLs.ie hd_20)
        clear hh_22
        have hsz_24 := hh_23.2.2.2.2.2.1
        have htt_24 := hh_23.2.2.2.2.2.2.1
        refine W.room (fun hrc_24 hrs_24 => ?_)
        refine W.widen (k := LC - s.heap.size) (n := LS - jTot s.heap) (by omega) (by omega) ?_
        rw [hQ]
        exact W.aret (v := .ref s.heap.size) hx hb hr (Or.inr ⟨_, rfl⟩) (Or.inr ⟨_, rfl⟩) (fun t ht hW => ⟨⟨.ref s.heap.size, (s.heap.size, nc_11, G_11), rfl, ⟨rfl, by (try dsimp only); first | omega | rfl | assumption | fail⟩, ⟨hh_23.ra (by first | (simp only; omega) | omega) (by first | (simp only; omega) | omega) (M1 := [(r0, 1, 1, .ref s.heap.size)]) [0] rfl ht, hgn_11, hNn_11, by rw [ht]; exact hh_23.2.2.2.2.2.2.2.2.sub (L1 := [(jFl, jLs dC dI ca G_11 3 none wl)]) [0] rfl⟩⟩, by rw [ht]; try exact hh_23.1.1, fun q h9 hq => by rw [ht]; try exact hh_23.1.2.1 q h9 hq⟩) hh_23.1.2.2 dJx4a65c_grow_92f84_59
      · skip
        exact absurd rfl c_8
  · skip
    exact absurd (hh.ab hg_lx_1).1 (va_T.out hK7.2.2.2.2.2.2.2)
set_option maxHeartbeats 4000000 in
set_option maxRecDepth 20000 in
theorem uJx4a65c_grow_92f84L2 (l : Launch) (dC : Nat → ClassId) (dI : Nat → Nat → Nat) (ca : Nat → ClassId) (base : Nat) (B : jF) (hB : jBok B) (hAp : jAp (dC, dI)) (hB1 : ∀ n G a H, B 1 n G a H ↔ jOb (dC, dI) 1 3 (F1 n G) a H) (hB10 : ∀ n G a H, B 10 n G a H ↔ jOb (dC, dI) 10 5 (F10 n G) a H) (hB222 : ∀ n G a H, B 222 n G a H ↔ jAq (dC, dI) (ca 9) (jQn 10 0) n G a H) (G0 : jT) (H0 : Heap) (r0 : Nat) (a1 : Int32) (ed : Nat) (n_ed : Nat) (lz : Int32) (wl : jWl9) (LC LS : Nat) : Met l yJx4a65c_grow_92f84 (jw yJx4a65c_grow_92f84 cJx4a65c_grow_92f84 4 (some (.array (.object "java/lang/Object")))) ({ frames := 3, cells := LC - H0.size, slots := LS - jTot H0, locals := 105 }) (va_Pc [.ref r0, .int a1] (fun U => U.heap = H0 ∧ jX B base G0 [] H0 ∧ jG dC dI ca base U ∧ jK7 dC dI ca base U ∧ G0 r0 = some (1, 2) ∧ G0 ed = some (222, n_ed) ∧ jP (dC, dI) G0 H0 [(r0, 1, 1, .ref ed), (r0, 1, 2, .int lz)] ∧ jIs (dC, dI) G0 H0 [(jFl, jLs dC dI ca G0 3 none wl)] ∧ H0.size + 1 ≤ LC ∧ jTot H0 + 40 ≤ LS ∧ a1.toInt = lz.toInt + 1 ∧ lz.toInt = n_ed ∧ lz.toInt ≤ 24)) (jQx (S := Nat × Nat × jT) (fun v u => v = .ref u.1 ∧ lz.toInt + 1 ≤ u.2.1 ∧ u.2.1 ≤ 40) (fun u t => jRa (dC, dI) B base G0 u.2.2 EJx4a65c_grow_92f84L2 H0 (1) (40) [(r0, 1, 1, .ref u.1)] t.heap ∧ u.2.2 u.1 = some (222, u.2.1) ∧ (jNk [0, 1, 2, 3, 4, 5, 6, 7, 8, 9, 10, 11, 12, 13, 14, 15, 16, 17, 175]) G0 u.2.2 ∧ jIs (dC, dI) u.2.2 t.heap [(jFl, jLs dC dI ca u.2.2 3 none wl)]) (jA base)) (LC - H0.size) (LS - jTot H0) (jA base) := by
  refine Met.ofW (cc := cJx4a65c_grow_92f84) (maxL := 4) (ret := (some (.array (.object "java/lang/Object")))) (by decide) rfl ?_
  intro p e s m args below meth c s₁ Bd hml hv
  obtain ⟨rfl, hH0, hX, hG, hK7, hg_r0, hg_ed, hP0, hI0, hLC0, hLS0, hp0, hp1, hp2⟩ := hv
  have hK := hG.1
  have hx := Bd.exec
  have hb := Bd.bytes
  have hr := Bd.returns
  have hts := atoms_spec (ws := (jw yJx4a65c_grow_92f84 cJx4a65c_grow_92f84 4 (some (.array (.object "java/lang/Object"))))) Bd.pre
  have htw : ∀ w ∈ jWl, w.before _ s = true := fun w h => hts w (List.mem_cons_of_mem _ h)
  have hown : s.vm.findClass RJx4a65c = some m.cls := findClass_of_methodNamed Bd.named
  have hlocks := Bd.notSynchronized
  obtain ⟨Q, hQ⟩ : ∃ Q, Q = MQ below (jQx (S := Nat × Nat × jT) (fun v u => v = .ref u.1 ∧ lz.toInt + 1 ≤ u.2.1 ∧ u.2.1 ≤ 40) (fun u t => jRa (dC, dI) B base G0 u.2.2 EJx4a65c_grow_92f84L2 H0 (1) (40) [(r0, 1, 1, .ref u.1)] t.heap ∧ u.2.2 u.1 = some (222, u.2.1) ∧ (jNk [0, 1, 2, 3, 4, 5, 6, 7, 8, 9, 10, 11, 12, 13, 14, 15, 16, 17, 175]) G0 u.2.2 ∧ jIs (dC, dI) u.2.2 t.heap [(jFl, jLs dC dI ca u.2.2 3 none wl)]) (jA base)) ([.ref r0, .int a1] : List Value).toArray s (LC - H0.size) (LS - jTot H0) (jA base) := ⟨_, rfl⟩
  rw [← hQ]
  have hl := lv_entry ([.ref r0, .int a1]) (n := 4) (Nat.le_of_ble_eq_true rfl)
  rw [lg_entry_eq]
  generalize (lg_sl ([.ref r0, .int a1]) ++ List.replicate (4 - (lg_sl ([.ref r0, .int a1])).length) Slot.unset).toArray = ls at hl ⊢
  have hl : lv_has ls 4 [(0, .ref r0), (1, .int a1)] := hl
  generalize hR : (headSpec (jw yJx4a65c_grow_92f84 cJx4a65c_grow_92f84 4 (some (.array (.object "java/lang/Object")))) ({ frames := 3, cells := LC - H0.size, slots := LS - jTot H0, locals := 105 })).room = R
  subst hH0
  have hh : jSt (dC, dI) B base G0 G0 EJx4a65c_grow_92f84L2 s.heap 0 0 [(r0, 1, 1, .ref ed), (r0, 1, 2, .int lz)] [] [(jFl, jLs dC dI ca G0 3 none wl)] s.heap [] := jSt.start hX hP0 jMc.nil hI0
  clear hX hP0
  have hk0 : (0 : Int32).toInt = 0 := by decide
  have hk1 : (1 : Int32).toInt = 1 := by decide
  have hk10 : (10 : Int32).toInt = 10 := by decide
  have hly_1_1 := htw (u_lay RJx4a65c TJx4a65c 1) (jWc_wsJx4a65c0 _ (u_in_lay (by decide)))
  have hlk_9 := (htw (.fieldLink RJx4a65c 9 "java/util/ArrayList" "elementData" "[Ljava/lang/Object;") (jWr_9 _ (List.mem_of_getElem? (i := 15) rfl)))
  have hrg_a1 := jb_rng a1
  have hbs : base ≤ s.heap.size := Nat.le_of_lt (Nat.lt_of_le_of_lt (hh.ab hg_r0).1 (hh.ab hg_r0).2)
  have hRc : R.cells = LC - s.heap.size := by rw [← hR]; rfl
  have hRs : R.slots = LS - jTot s.heap := by rw [← hR]; rfl
  obtain ⟨lz_1, lx_1, hl1_1, hl2_1, hl3_1, hl4_1⟩ := jLs.at (hh.iv 0 rfl) hg_r0
  obtain rfl : lz = lz_1 := Value.int.inj (jf.uniq (hh.at 1 rfl) hl1_1)
  have hl3_1 : 0 ≤ lz.toInt ∧ lz.toInt ≤ 12 := hl3_1
  obtain rfl : ed = lx_1 := Value.ref.inj (jf.uniq (hh.at 0 rfl) hl2_1)
  rcases hl4_1 with ⟨hl9_1, hl5_1, hl0_1, hlE_1⟩ | ⟨lm_1, lf_1, hg_lx_1, hlm_1, hl6_1, hl7_1, hl8_1, hlw_1, hlY_1⟩
  · skip
    exact absurd (show base ≤ dI 99 0 by rw [← hl9_1]; exact (hh.ab hg_ed).1) (va_T.out hK7.2.2.2.2.2.2.2)
  · skip
    obtain rfl : n_ed = lm_1 := by have h9 := Option.some.inj (hg_ed.symm.trans hg_lx_1); exact congrArg Prod.snd h9
    have hd_2 := jLs.less (hh.iv 0 rfl) r0
    have hh_3 := hh.sub (L1 := [(r0, 1, 1, .ref ed), (r0, 1, 2, .int lz)]) [0, 1] rfl (M1 := []) [] rfl (I1 := []) [] rfl
    clear hh
    have hh_4 := hh_3.addI (jLs.ie hd_2)
    clear hh_3
    have hh_5 := hh_4.addI (jQc.ie hl7_1 hg_lx_1 (by decide) (by decide))
    clear hh_4
    refine lv_aload_n hx hb dJx4a65c_grow_92f84_0 rfl (lv_at hl 0 rfl) ?_
    refine j7_read hx hb hown hK (C := RJx4a65c) (T := TJx4a65c) (N := 3) rfl hly_1_1 hlk_9 (hh_5.at 0 rfl) dJx4a65c_grow_92f84_1 ?_
    refine j7_qlen hx hb hK7.1 hh_5 hB222 0 rfl (by decide) hg_ed (by omega) dJx4a65c_grow_92f84_4 (fun z_6 hz_6 => ?_)
    refine lv_istore_n (lv' := [(2, .int z_6), (0, .ref r0), (1, .int a1)]) hx hb dJx4a65c_grow_92f84_5 rfl hl (by decide) rfl (fun ls hl => ?_)
    refine lv_iload_n hx hb dJx4a65c_grow_92f84_6 rfl (lv_at hl 0 rfl) ?_
    refine lv_if_gt (tgt := 20) hx hb dJx4a65c_grow_92f84_7 (by decide) (fun c_7 => ?_) (fun c_7 => ?_)
    · skip
      have c_7' : z_6.toInt > 0 := jb_gt (rfl) ((by decide)) c_7
      refine lv_iload_n hx hb dJx4a65c_grow_92f84_20 rfl (lv_at hl 0 rfl) ?_
      refine lv_iload_n hx hb dJx4a65c_grow_92f84_21 rfl (lv_at hl 2 rfl) ?_
      refine lv_iload_n hx hb dJx4a65c_grow_92f84_22 rfl (lv_at hl 0 rfl) ?_
      refine lv_isub hx hb dJx4a65c_grow_92f84_23 ?_
      refine lv_topi (fun z_8 ez_8 => ?_)
      have hz_8 : z_8.toInt = a1.toInt - z_6.toInt := by rw [ez_8]; exact jb_isub2 (rfl) (rfl) (by omega)
      refine lv_iload_n hx hb dJx4a65c_grow_92f84_24 rfl (lv_at hl 0 rfl) ?_
      refine lv_iconst (v := 1) hx hb dJx4a65c_grow_92f84_25 (by decide) ?_
      refine lv_ishr hx hb dJx4a65c_grow_92f84_26 ?_
      refine lv_topi (fun z_9 ez_9 => ?_)
      have hz_9 : z_9.toInt = z_6.toInt / 2 ^ 1 := by rw [ez_9]; exact jb_ishr 1 (rfl) (by decide)
      have hsz_10 := hh_5.2.2.2.2.2.1
      have htt_10 := hh_5.2.2.2.2.2.2.1
      refine W.room (fun hrc_10 hrs_10 => ?_)
      refine va_calli (A0 := jA base) (H0 := s.heap) (va_runS (As := [.int z_6, .int z_8, .int z_9]) (rest := []) ⟨hx, hb, hml, hown, hts⟩ (uJ8_newLength_cabcc l dC dI ca base B hB hAp G0 s.heap z_6 z_8 z_9) (va_cwS 3 hts (jgS (jWr_34 _ (List.mem_of_getElem? (i := 3) rfl)) (jWr_34 _ (List.mem_of_getElem? (i := 4) rfl)) (jWr_34 _ (List.mem_of_getElem? (i := 5) rfl)) (jWr_34 _ (List.mem_of_getElem? (i := 6) rfl))) rfl rfl rfl (by decide +kernel) ⟨by rw [← hR]; exact Nat.le_of_ble_eq_true rfl, by rw [← hR]; exact Nat.le_of_ble_eq_true rfl⟩) ⟨fun a U g mk q => by obtain ⟨q0, q1, q2, qK, q10, q11⟩ := q; exact ⟨q0, q1, q2, jG.calling g mk a qK, q10, q11⟩, fun U hU hW => ⟨rfl, hU, hh_5.2.1, hG.step hW hU hh_5.1, jP.nil, by first | omega | (refine ⟨?_, ?_, ?_, ?_, ?_, ?_⟩ <;> (first | omega | rfl | assumption | decide | exact Or.inl rfl | exact Or.inr rfl | (simp only; omega)))⟩⟩ rfl rfl hl.1 rfl (lv_room (Nat.le_of_ble_eq_true rfl)) dJx4a65c_grow_92f84_27 ⟨by rw [hRc]; show _ + 0 ≤ _; omega, by rw [hRs]; show _ + 0 ≤ _; omega⟩) hh_5.1 (fun q _ h => h) (fun q h => h) (fun r_11 u_10 t_10 H_10 locs_10 ht_10 hvm_10 hr_11 hb_10 hz_10 hk_10 hS_10 => ?_)
      rw [ht_10] at hb_10
      obtain ⟨hb_101, hb_102, hb_103, hb_104, hb_105⟩ := hb_10
      have hh_10 : jSt (dC, dI) B base G0 G0 EJx4a65c_grow_92f84L2 s.heap 0 0 [(r0, 1, 1, .ref ed), (r0, 1, 2, .int lz)] [] [([(222, 0)], jQc dC dI (ca 9) ed n_ed lf_1), (jFl, jLs dC dI ca G0 3 (some r0) wl)] H_10 locs_10 := ((hh_5.call hb_101 hb_102 hb_103 hb_104 hS_10 rfl (L1 := [(r0, 1, 1, .ref ed), (r0, 1, 2, .int lz)]) [0, 1] rfl rfl (M1 := []) [] rfl rfl (I1 := [([(222, 0)], jQc dC dI (ca 9) ed n_ed lf_1), (jFl, jLs dC dI ca G0 3 (some r0) wl)]) [0, 1] rfl rfl).more hb_105)
      clear hh_5 ht_10 hvm_10 hz_10 hk_10 hS_10 hb_101 hb_102 hb_103 hb_104 hb_105
      obtain ⟨hr_11_0, hr_11_1, hr_11_2⟩ := hr_11
      refine lv_istore_n (lv' := [(3, .int r_11), (2, .int z_6), (0, .ref r0), (1, .int a1)]) hx hb dJx4a65c_grow_92f84_30 rfl hl (by decide) rfl (fun ls hl => ?_)
      refine lv_aload_n hx hb dJx4a65c_grow_92f84_31 rfl (lv_at hl 2 rfl) ?_
      refine lv_aload_n hx hb dJx4a65c_grow_92f84_32 rfl (lv_at hl 2 rfl) ?_
      refine j7_read hx hb hown hK (C := RJx4a65c) (T := TJx4a65c) (N := 3) rfl hly_1_1 hlk_9 (hh_10.at 0 rfl) dJx4a65c_grow_92f84_33 ?_
      refine lv_iload_n hx hb dJx4a65c_grow_92f84_36 rfl (lv_at hl 0 rfl) ?_
      have hsz_12 := hh_10.2.2.2.2.2.1
      have htt_12 := hh_10.2.2.2.2.2.2.1
      refine W.room (fun hrc_12 hrs_12 => ?_)
      refine j_callx (A0 := jA base) (H0 := s.heap) (va_runS (As := [.ref ed, .int r_11]) (rest := [.ref r0]) ⟨hx, hb, hml, hown, hts⟩ (uJ7_copyOf_1904cL2 l dC dI ca base B hB hAp hB10 hB222 G0 H_10 ed r_11 n_ed lf_1 LC LS) (va_cwS 2 hts (jgS (jWr_34 _ (List.mem_of_getElem? (i := 12) rfl)) (jWr_34 _ (List.mem_of_getElem? (i := 13) rfl)) (jWr_16 _ (List.mem_of_getElem? (i := 7) rfl)) (jWr_34 _ (List.mem_of_getElem? (i := 14) rfl))) rfl rfl rfl (by decide +kernel) ⟨by rw [← hR]; exact Nat.le_of_ble_eq_true rfl, by rw [← hR]; exact Nat.le_of_ble_eq_true rfl⟩) ⟨fun a U g mk q => by obtain ⟨q0, q1, q2, qK, q10, q11, q12, q13, q14⟩ := q; exact ⟨q0, q1, q2, jG.calling g mk a qK, (jK7.calling g mk a q10), q11, q12, q13, q14⟩, fun U hU hW => ⟨rfl, hU, hh_10.2.1, hG.step hW hU hh_10.1, (hK7.step hW hU hh_10.1), hg_ed, jP.nil, (hh_10.2.2.2.2.2.2.2.2.sub (L1 := [([(222, 0)], jQc dC dI (ca 9) ed n_ed lf_1)]) [0] rfl), by first | omega | (refine ⟨?_, ?_, ?_⟩ <;> (first | omega | rfl | assumption | decide | exact Or.inl rfl | exact Or.inr rfl | (simp only; omega)))⟩⟩ rfl rfl hl.1 rfl (lv_room (Nat.le_of_ble_eq_true rfl)) dJx4a65c_grow_92f84_37 ⟨by rw [hRc]; omega, by rw [hRs]; omega⟩) hh_10.1 (fun q _ h => h) (fun q h => h) (fun r_13 u_12 t_12 H_12 locs_12 ht_12 hvm_12 hr_13 hb_12 hz_12 hk_12 hS_12 => ?_)
      rw [ht_12] at hb_12
      obtain ⟨x_ret_12, m_ret_12, G_12⟩ := u_12
      simp only at hb_12
      obtain ⟨⟨hb_121, hb_122, hb_123, hb_124, hb_125, hb_126⟩, hN_12, hbQ_12, hbK_12⟩ := hb_12
      have hh_12 : jSt (dC, dI) B base G0 G_12 EJx4a65c_grow_92f84L2 s.heap (0 + (1)) (0 + (m_ret_12)) [(r0, 1, 1, .ref ed), (r0, 1, 2, .int lz)] [] [([(222, 0)], jQc dC dI (ca 9) ed n_ed lf_1), (jFl, jLs dC dI ca G0 3 (some r0) wl)] H_12 locs_12 := (hh_10.callG hb_121 hb_122 hb_123 hb_124 hb_125 hS_12 rfl (L1 := [(r0, 1, 1, .ref ed), (r0, 1, 2, .int lz)]) [0, 1] rfl rfl (M1 := []) [] rfl rfl (I1 := [([(222, 0)], jQc dC dI (ca 9) ed n_ed lf_1), (jFl, jLs dC dI ca G0 3 (some r0) wl)]) [0, 1] rfl rfl).more hb_126
      have hNn_12 : (jNk [0, 1, 2, 3, 4, 5, 6, 7, 8, 9, 10, 11, 12, 13, 14, 15, 16, 17, 175]) G0 G_12 := (jNk.rf).tr hN_12
      have hg_14 := hb_122 _ _ hg_r0
      have hg_15 := hb_122 _ _ hg_ed
      have hd_17 := jLs.grow (hh_12.iv 1 rfl) hb_122 hN_12 (by decide)
      have hh_18 := hh_12.sub (L1 := [(r0, 1, 1, .ref ed), (r0, 1, 2, .int lz)]) [0, 1] rfl (M1 := []) [] rfl (I1 := [([(222, 0)], jQc dC dI (ca 9) ed n_ed lf_1)]) [0] rfl
      clear hh_12
      have hh_19 := hh_18.addI (jLs.ie hd_17)
      clear hh_18
      obtain ⟨rfl, hr_13, hr_13n, hr_13p⟩ := hr_13
      try simp only at hr_13p
      have hgr_12 : G_12 x_ret_12 = some (222, m_ret_12) := by obtain ⟨y9, e9, h9⟩ := hr_13; cases e9; exact h9
      have hsy_12 : s.heap.size ≤ x_ret_12 := Nat.le_trans hh_10.1.1 hr_13n.le
      obtain ⟨fr_12, hqa_12, hqr_12⟩ := hbQ_12
      have hh_20 := hh_19.addI (jQc.ie hqa_12 hgr_12 (by decide) (by decide))
      clear hh_19
      refine lv_dup_x1 hx hb dJx4a65c_grow_92f84_40 rfl rfl ?_
      have hd_22 := hh_20.iv 1 rfl
      have hh_23 := hh_20.sub (L1 := [(r0, 1, 1, .ref ed), (r0, 1, 2, .int lz)]) [0, 1] rfl (M1 := []) [] rfl (I1 := [([(222, 0)], jQc dC dI (ca 9) x_ret_12 m_ret_12 fr_12), ([(222, 0)], jQc dC dI (ca 9) ed n_ed lf_1)]) [0, 2] rfl
      clear hh_20
      refine j7_putX hx hb hown hK hh_23 hB hAp hB1 (C := RJx4a65c) (T := TJx4a65c) (N := 3) rfl (by decide) hg_14 (i := 1) (by decide) hly_1_1 rfl hlk_9 rfl (ty := (.array (.object "java/lang/Object"))) (v := .ref x_ret_12) (by decide +kernel) rfl rfl (⟨_, rfl⟩) rfl (L1 := [(r0, 1, 2, .int lz)]) [1] rfl rfl rfl dJx4a65c_grow_92f84_41 (fun H_21 locs_21 hr_21 hh_21 => ?_)
      clear hh_23
      have hd_22n := jLs.fld hd_22 hg_14 hr_21
      have hh_24 := hh_21.addI (jLs.ie hd_22n)
      clear hh_21
      clear hd_22 hd_22n hr_21
      have hd_25 := jLs.full (wn := wl) (hh_24.iv 0 rfl) hg_14 ⟨_, _, hh_24.at 1 rfl, hh_24.at 0 rfl, ⟨by omega, (show _ ≤ (12 : Int) by omega)⟩, Or.inr ⟨_, _, hgr_12, by omega, by omega, hh_24.iv 1 rfl, (fun i h9 => by rw [hqr_12 i (by omega)]; exact hl8_1 i (by omega)), (fun q => absurd q (by decide)), jWm.cg hlY_1 (fun i h9 => hqr_12 i (by omega))⟩⟩ ⟨fun _ => ⟨rfl, rfl⟩, fun q => absurd rfl q, fun _ => rfl⟩
      have hh_26 := hh_24.sub (L1 := [(r0, 1, 1, .ref x_ret_12), (r0, 1, 2, .int lz)]) [0, 1] rfl (M1 := []) [] rfl (I1 := [([(222, 0)], jQc dC dI (ca 9) x_ret_12 m_ret_12 fr_12), ([(222, 0)], jQc dC dI (ca 9) ed n_ed lf_1)]) [1, 2] rfl
      clear hh_24
      have hh_27 := hh_26.addI (jLs.ie hd_25)
      clear hh_26
      have hsz_28 := hh_27.2.2.2.2.2.1
      have htt_28 := hh_27.2.2.2.2.2.2.1
      refine W.room (fun hrc_28 hrs_28 => ?_)
      refine W.widen (k := LC - s.heap.size) (n := LS - jTot s.heap) (by omega) (by omega) ?_
      rw [hQ]
      exact W.aret (v := .ref x_ret_12) hx hb hr (Or.inr ⟨_, rfl⟩) (Or.inr ⟨_, rfl⟩) (fun t ht hW => ⟨⟨.ref x_ret_12, (x_ret_12, m_ret_12, G_12), rfl, ⟨rfl, by (try dsimp only); exact ⟨(by first | omega | rfl | assumption | fail), (by first | omega | rfl | assumption | fail)⟩⟩, ⟨hh_27.ra (by first | (simp only; omega) | omega) (by first | (simp only; omega) | omega) (M1 := [(r0, 1, 1, .ref x_ret_12)]) [0] rfl ht, hgr_12, hNn_12, by rw [ht]; exact hh_27.2.2.2.2.2.2.2.2.sub (L1 := [(jFl, jLs dC dI ca G_12 3 none wl)]) [0] rfl⟩⟩, by rw [ht]; try exact hh_27.1.1, fun q h9 hq => by rw [ht]; try exact hh_27.1.2.1 q h9 hq⟩) hh_27.1.2.2 dJx4a65c_grow_92f84_44
    · skip
      have c_7' : z_6.toInt ≤ 0 := jb_gt_n (rfl) ((by decide)) c_7
      exact absurd c_7' (by omega)
set_option maxHeartbeats 4000000 in
set_option maxRecDepth 20000 in
theorem uJx4a65c_grow_d5877E2 (l : Launch) (dC : Nat → ClassId) (dI : Nat → Nat → Nat) (ca : Nat → ClassId) (base : Nat) (B : jF) (hB : jBok B) (hAp : jAp (dC, dI)) (hB1 : ∀ n G a H, B 1 n G a H ↔ jOb (dC, dI) 1 3 (F1 n G) a H) (hB10 : ∀ n G a H, B 10 n G a H ↔ jOb (dC, dI) 10 5 (F10 n G) a H) (hB222 : ∀ n G a H, B 222 n G a H ↔ jAq (dC, dI) (ca 9) (jQn 10 0) n G a H) (G0 : jT) (H0 : Heap) (r0 : Nat) (lz : Int32) (wl : jWl9) (LC LS : Nat) : Met l yJx4a65c_grow_d5877 (jw yJx4a65c_grow_d5877 cJx4a65c_grow_d5877 1 (some (.array (.object "java/lang/Object")))) ({ frames := 4, cells := LC - H0.size, slots := LS - jTot H0, locals := 128 }) (va_Pc [.ref r0] (fun U => U.heap = H0 ∧ jX B base G0 [] H0 ∧ jG dC dI ca base U ∧ jK7 dC dI ca base U ∧ G0 r0 = some (1, 2) ∧ jP (dC, dI) G0 H0 [(r0, 1, 1, .ref (dI 99 0)), (r0, 1, 2, .int lz)] ∧ jIs (dC, dI) G0 H0 [(jFl, jLs dC dI ca G0 3 none wl)] ∧ H0.size + 1 ≤ LC ∧ jTot H0 + 40 ≤ LS ∧ lz.toInt = 0)) (jQx (S := Nat × Nat × jT) (fun v u => v = .ref u.1 ∧ u.2.1 = 10) (fun u t => jRa (dC, dI) B base G0 u.2.2 EJx4a65c_grow_d5877E2 H0 (1) (40) [(r0, 1, 1, .ref u.1)] t.heap ∧ u.2.2 u.1 = some (222, u.2.1) ∧ (jNk [0, 1, 2, 3, 4, 5, 6, 7, 8, 9, 10, 11, 12, 13, 14, 15, 16, 17, 175]) G0 u.2.2 ∧ jIs (dC, dI) u.2.2 t.heap [(jFl, jLs dC dI ca u.2.2 3 none wl)]) (jA base)) (LC - H0.size) (LS - jTot H0) (jA base) := by
  refine Met.ofW (cc := cJx4a65c_grow_d5877) (maxL := 1) (ret := (some (.array (.object "java/lang/Object")))) (by decide) rfl ?_
  intro p e s m args below meth c s₁ Bd hml hv
  obtain ⟨rfl, hH0, hX, hG, hK7, hg_r0, hP0, hI0, hLC0, hLS0, hp0⟩ := hv
  have hK := hG.1
  have hx := Bd.exec
  have hb := Bd.bytes
  have hr := Bd.returns
  have hts := atoms_spec (ws := (jw yJx4a65c_grow_d5877 cJx4a65c_grow_d5877 1 (some (.array (.object "java/lang/Object"))))) Bd.pre
  have htw : ∀ w ∈ jWl, w.before _ s = true := fun w h => hts w (List.mem_cons_of_mem _ h)
  have hown : s.vm.findClass RJx4a65c = some m.cls := findClass_of_methodNamed Bd.named
  have hlocks := Bd.notSynchronized
  obtain ⟨Q, hQ⟩ : ∃ Q, Q = MQ below (jQx (S := Nat × Nat × jT) (fun v u => v = .ref u.1 ∧ u.2.1 = 10) (fun u t => jRa (dC, dI) B base G0 u.2.2 EJx4a65c_grow_d5877E2 H0 (1) (40) [(r0, 1, 1, .ref u.1)] t.heap ∧ u.2.2 u.1 = some (222, u.2.1) ∧ (jNk [0, 1, 2, 3, 4, 5, 6, 7, 8, 9, 10, 11, 12, 13, 14, 15, 16, 17, 175]) G0 u.2.2 ∧ jIs (dC, dI) u.2.2 t.heap [(jFl, jLs dC dI ca u.2.2 3 none wl)]) (jA base)) ([.ref r0] : List Value).toArray s (LC - H0.size) (LS - jTot H0) (jA base) := ⟨_, rfl⟩
  rw [← hQ]
  have hl := lv_entry ([.ref r0]) (n := 1) (Nat.le_of_ble_eq_true rfl)
  rw [lg_entry_eq]
  generalize (lg_sl ([.ref r0]) ++ List.replicate (1 - (lg_sl ([.ref r0])).length) Slot.unset).toArray = ls at hl ⊢
  have hl : lv_has ls 1 [(0, .ref r0)] := hl
  generalize hR : (headSpec (jw yJx4a65c_grow_d5877 cJx4a65c_grow_d5877 1 (some (.array (.object "java/lang/Object")))) ({ frames := 4, cells := LC - H0.size, slots := LS - jTot H0, locals := 128 })).room = R
  subst hH0
  have hh : jSt (dC, dI) B base G0 G0 EJx4a65c_grow_d5877E2 s.heap 0 0 [(r0, 1, 1, .ref (dI 99 0)), (r0, 1, 2, .int lz)] [] [(jFl, jLs dC dI ca G0 3 none wl)] s.heap [] := jSt.start hX hP0 jMc.nil hI0
  clear hX hP0
  have hk0 : (0 : Int32).toInt = 0 := by decide
  have hk1 : (1 : Int32).toInt = 1 := by decide
  have hly_1_2 := htw (u_lay RJx4a65c TJx4a65c 2) (jWc_wsJx4a65c0 _ (u_in_lay (by decide)))
  have hlk_48 := (htw (.fieldLink RJx4a65c 48 "java/util/ArrayList" "size" "I") (jWr_28 _ (List.mem_of_getElem? (i := 2) rfl)))
  have hbs : base ≤ s.heap.size := Nat.le_of_lt (Nat.lt_of_le_of_lt (hh.ab hg_r0).1 (hh.ab hg_r0).2)
  have hRc : R.cells = LC - s.heap.size := by rw [← hR]; rfl
  have hRs : R.slots = LS - jTot s.heap := by rw [← hR]; rfl
  refine lv_aload_n hx hb dJx4a65c_grow_d5877_0 rfl (lv_at hl 0 rfl) ?_
  refine lv_aload_n hx hb dJx4a65c_grow_d5877_1 rfl (lv_at hl 0 rfl) ?_
  refine j7_read hx hb hown hK (C := RJx4a65c) (T := TJx4a65c) (N := 3) rfl hly_1_2 hlk_48 (hh.at 1 rfl) dJx4a65c_grow_d5877_2 ?_
  refine lv_iconst (v := 1) hx hb dJx4a65c_grow_d5877_5 (by decide) ?_
  refine lv_iadd hx hb dJx4a65c_grow_d5877_6 ?_
  refine lv_topi (fun z_1 ez_1 => ?_)
  have hz_1 : z_1.toInt = lz.toInt + 1 := by rw [ez_1]; exact jb_iadd2 (rfl) ((by decide)) (by omega)
  have hsz_2 := hh.2.2.2.2.2.1
  have htt_2 := hh.2.2.2.2.2.2.1
  refine W.room (fun hrc_2 hrs_2 => ?_)
  refine j_callx (A0 := jA base) (H0 := s.heap) (va_runV (As := [.int z_1]) (rest := []) ⟨hx, hb, hml, hown, hts⟩ (uJx4a65c_grow_92f84E2 l dC dI ca base B hB hAp hB1 hB10 hB222 G0 s.heap r0 z_1 lz wl LC LS) (cwV 1 hts (jgV (jWr_33 _ (List.mem_of_getElem? (i := 21) rfl)) (jWr_33 _ (List.mem_of_getElem? (i := 22) rfl)) (jWr_33 _ (List.mem_of_getElem? (i := 23) rfl)) (jWr_2 _ (List.mem_of_getElem? (i := 13) rfl)) (jWr_34 _ (List.mem_of_getElem? (i := 0) rfl))) rfl rfl rfl (by decide +kernel) ⟨by rw [← hR]; exact Nat.le_of_ble_eq_true rfl, by rw [← hR]; exact Nat.le_of_ble_eq_true rfl⟩) ⟨fun a U g mk q => by obtain ⟨q0, q1, q2, qK, q10, q11, q12, q13, q14⟩ := q; exact ⟨q0, q1, q2, jG.calling g mk a qK, (jK7.calling g mk a q10), q11, q12, q13, q14⟩, hh.recv (C := RJx4a65c) (T := TJx4a65c) (N := 3) hB1 rfl (by decide) hg_r0 hK, fun U hU hW => ⟨rfl, hU, hh.2.1, hG.step hW hU hh.1, (hK7.step hW hU hh.1), hg_r0, (hh.2.2.1.sub (L1 := [(r0, 1, 1, .ref (dI 99 0)), (r0, 1, 2, .int lz)]) [0, 1] rfl), (hh.2.2.2.2.2.2.2.2.sub (L1 := [(jFl, jLs dC dI ca G0 3 none wl)]) [0] rfl), by first | omega | (refine ⟨?_, ?_⟩ <;> (first | omega | rfl | assumption | decide | exact Or.inl rfl | exact Or.inr rfl | (simp only; omega)))⟩⟩ rfl rfl hl.1 rfl (lv_room (Nat.le_of_ble_eq_true rfl)) dJx4a65c_grow_d5877_7 ⟨by rw [hRc]; omega, by rw [hRs]; omega⟩) hh.1 (fun q _ h => h) (fun q h => h) (fun r_3 u_2 t_2 H_2 locs_2 ht_2 hvm_2 hr_3 hb_2 hz_2 hk_2 hS_2 => ?_)
  rw [ht_2] at hb_2
  obtain ⟨qa_2, m_qa_2, G_2⟩ := u_2
  simp only at hb_2
  obtain ⟨⟨hb_21, hb_22, hb_23, hb_24, hb_25, hb_26⟩, hgq_2_0, hN_2, hbE_2⟩ := hb_2
  have hh_2 : jSt (dC, dI) B base G0 G_2 EJx4a65c_grow_d5877E2 s.heap (0 + (1)) (0 + (40)) [(r0, 1, 1, .ref qa_2), (r0, 1, 2, .int lz)] [] [] H_2 locs_2 := (hh.callG hb_21 hb_22 hb_23 hb_24 hb_25 hS_2 rfl (L1 := [(r0, 1, 2, .int lz)]) [1] rfl rfl (M1 := []) [] rfl rfl (I1 := []) [] rfl rfl).more hb_26
  have hNn_2 : (jNk [0, 1, 2, 3, 4, 5, 6, 7, 8, 9, 10, 11, 12, 13, 14, 15, 16, 17, 175]) G0 G_2 := (jNk.rf).tr hN_2
  have hg_4 := hb_22 _ _ hg_r0
  have hh_5 := hh_2.addIs hbE_2
  obtain ⟨rfl, hr_3p⟩ := hr_3
  try simp only at hr_3p
  have hsz_6 := hh_5.2.2.2.2.2.1
  have htt_6 := hh_5.2.2.2.2.2.2.1
  refine W.room (fun hrc_6 hrs_6 => ?_)
  refine W.widen (k := LC - s.heap.size) (n := LS - jTot s.heap) (by omega) (by omega) ?_
  rw [hQ]
  exact W.aret (v := .ref qa_2) hx hb hr (Or.inr ⟨_, rfl⟩) (Or.inr ⟨_, rfl⟩) (fun t ht hW => ⟨⟨.ref qa_2, (qa_2, m_qa_2, G_2), rfl, ⟨rfl, by (try dsimp only); first | omega | rfl | assumption | fail⟩, ⟨hh_5.ra (by first | (simp only; omega) | omega) (by first | (simp only; omega) | omega) (M1 := [(r0, 1, 1, .ref qa_2)]) [0] rfl ht, hgq_2_0, hNn_2, by rw [ht]; exact hh_5.2.2.2.2.2.2.2.2.sub (L1 := [(jFl, jLs dC dI ca G_2 3 none wl)]) [0] rfl⟩⟩, by rw [ht]; try exact hh_5.1.1, fun q h9 hq => by rw [ht]; try exact hh_5.1.2.1 q h9 hq⟩) hh_5.1.2.2 dJx4a65c_grow_d5877_10
set_option maxHeartbeats 4000000 in
set_option maxRecDepth 20000 in
theorem uJx4a65c_grow_d5877L2 (l : Launch) (dC : Nat → ClassId) (dI : Nat → Nat → Nat) (ca : Nat → ClassId) (base : Nat) (B : jF) (hB : jBok B) (hAp : jAp (dC, dI)) (hB1 : ∀ n G a H, B 1 n G a H ↔ jOb (dC, dI) 1 3 (F1 n G) a H) (hB10 : ∀ n G a H, B 10 n G a H ↔ jOb (dC, dI) 10 5 (F10 n G) a H) (hB222 : ∀ n G a H, B 222 n G a H ↔ jAq (dC, dI) (ca 9) (jQn 10 0) n G a H) (G0 : jT) (H0 : Heap) (r0 : Nat) (ed : Nat) (n_ed : Nat) (lz : Int32) (wl : jWl9) (LC LS : Nat) : Met l yJx4a65c_grow_d5877 (jw yJx4a65c_grow_d5877 cJx4a65c_grow_d5877 1 (some (.array (.object "java/lang/Object")))) ({ frames := 4, cells := LC - H0.size, slots := LS - jTot H0, locals := 128 }) (va_Pc [.ref r0] (fun U => U.heap = H0 ∧ jX B base G0 [] H0 ∧ jG dC dI ca base U ∧ jK7 dC dI ca base U ∧ G0 r0 = some (1, 2) ∧ G0 ed = some (222, n_ed) ∧ jP (dC, dI) G0 H0 [(r0, 1, 1, .ref ed), (r0, 1, 2, .int lz)] ∧ jIs (dC, dI) G0 H0 [(jFl, jLs dC dI ca G0 3 none wl)] ∧ H0.size + 1 ≤ LC ∧ jTot H0 + 40 ≤ LS ∧ lz.toInt = n_ed ∧ lz.toInt ≤ 24)) (jQx (S := Nat × Nat × jT) (fun v u => v = .ref u.1 ∧ lz.toInt + 1 ≤ u.2.1 ∧ u.2.1 ≤ 40) (fun u t => jRa (dC, dI) B base G0 u.2.2 EJx4a65c_grow_d5877L2 H0 (1) (40) [(r0, 1, 1, .ref u.1)] t.heap ∧ u.2.2 u.1 = some (222, u.2.1) ∧ (jNk [0, 1, 2, 3, 4, 5, 6, 7, 8, 9, 10, 11, 12, 13, 14, 15, 16, 17, 175]) G0 u.2.2 ∧ jIs (dC, dI) u.2.2 t.heap [(jFl, jLs dC dI ca u.2.2 3 none wl)]) (jA base)) (LC - H0.size) (LS - jTot H0) (jA base) := by
  refine Met.ofW (cc := cJx4a65c_grow_d5877) (maxL := 1) (ret := (some (.array (.object "java/lang/Object")))) (by decide) rfl ?_
  intro p e s m args below meth c s₁ Bd hml hv
  obtain ⟨rfl, hH0, hX, hG, hK7, hg_r0, hg_ed, hP0, hI0, hLC0, hLS0, hp0, hp1⟩ := hv
  have hK := hG.1
  have hx := Bd.exec
  have hb := Bd.bytes
  have hr := Bd.returns
  have hts := atoms_spec (ws := (jw yJx4a65c_grow_d5877 cJx4a65c_grow_d5877 1 (some (.array (.object "java/lang/Object"))))) Bd.pre
  have htw : ∀ w ∈ jWl, w.before _ s = true := fun w h => hts w (List.mem_cons_of_mem _ h)
  have hown : s.vm.findClass RJx4a65c = some m.cls := findClass_of_methodNamed Bd.named
  have hlocks := Bd.notSynchronized
  obtain ⟨Q, hQ⟩ : ∃ Q, Q = MQ below (jQx (S := Nat × Nat × jT) (fun v u => v = .ref u.1 ∧ lz.toInt + 1 ≤ u.2.1 ∧ u.2.1 ≤ 40) (fun u t => jRa (dC, dI) B base G0 u.2.2 EJx4a65c_grow_d5877L2 H0 (1) (40) [(r0, 1, 1, .ref u.1)] t.heap ∧ u.2.2 u.1 = some (222, u.2.1) ∧ (jNk [0, 1, 2, 3, 4, 5, 6, 7, 8, 9, 10, 11, 12, 13, 14, 15, 16, 17, 175]) G0 u.2.2 ∧ jIs (dC, dI) u.2.2 t.heap [(jFl, jLs dC dI ca u.2.2 3 none wl)]) (jA base)) ([.ref r0] : List Value).toArray s (LC - H0.size) (LS - jTot H0) (jA base) := ⟨_, rfl⟩
  rw [← hQ]
  have hl := lv_entry ([.ref r0]) (n := 1) (Nat.le_of_ble_eq_true rfl)
  rw [lg_entry_eq]
  generalize (lg_sl ([.ref r0]) ++ List.replicate (1 - (lg_sl ([.ref r0])).length) Slot.unset).toArray = ls at hl ⊢
  have hl : lv_has ls 1 [(0, .ref r0)] := hl
  generalize hR : (headSpec (jw yJx4a65c_grow_d5877 cJx4a65c_grow_d5877 1 (some (.array (.object "java/lang/Object")))) ({ frames := 4, cells := LC - H0.size, slots := LS - jTot H0, locals := 128 })).room = R
  subst hH0
  have hh : jSt (dC, dI) B base G0 G0 EJx4a65c_grow_d5877L2 s.heap 0 0 [(r0, 1, 1, .ref ed), (r0, 1, 2, .int lz)] [] [(jFl, jLs dC dI ca G0 3 none wl)] s.heap [] := jSt.start hX hP0 jMc.nil hI0
  clear hX hP0
  have hk0 : (0 : Int32).toInt = 0 := by decide
  have hk1 : (1 : Int32).toInt = 1 := by decide
  have hly_1_2 := htw (u_lay RJx4a65c TJx4a65c 2) (jWc_wsJx4a65c0 _ (u_in_lay (by decide)))
  have hlk_48 := (htw (.fieldLink RJx4a65c 48 "java/util/ArrayList" "size" "I") (jWr_28 _ (List.mem_of_getElem? (i := 2) rfl)))
  have hbs : base ≤ s.heap.size := Nat.le_of_lt (Nat.lt_of_le_of_lt (hh.ab hg_r0).1 (hh.ab hg_r0).2)
  have hRc : R.cells = LC - s.heap.size := by rw [← hR]; rfl
  have hRs : R.slots = LS - jTot s.heap := by rw [← hR]; rfl
  refine lv_aload_n hx hb dJx4a65c_grow_d5877_0 rfl (lv_at hl 0 rfl) ?_
  refine lv_aload_n hx hb dJx4a65c_grow_d5877_1 rfl (lv_at hl 0 rfl) ?_
  refine j7_read hx hb hown hK (C := RJx4a65c) (T := TJx4a65c) (N := 3) rfl hly_1_2 hlk_48 (hh.at 1 rfl) dJx4a65c_grow_d5877_2 ?_
  refine lv_iconst (v := 1) hx hb dJx4a65c_grow_d5877_5 (by decide) ?_
  refine lv_iadd hx hb dJx4a65c_grow_d5877_6 ?_
  refine lv_topi (fun z_1 ez_1 => ?_)
  have hz_1 : z_1.toInt = lz.toInt + 1 := by rw [ez_1]; exact jb_iadd2 (rfl) ((by decide)) (by omega)
  have hsz_2 := hh.2.2.2.2.2.1
  have htt_2 := hh.2.2.2.2.2.2.1
  refine W.room (fun hrc_2 hrs_2 => ?_)
  refine j_callx (A0 := jA base) (H0 := s.heap) (va_runV (As := [.int z_1]) (rest := []) ⟨hx, hb, hml, hown, hts⟩ (uJx4a65c_grow_92f84L2 l dC dI ca base B hB hAp hB1 hB10 hB222 G0 s.heap r0 z_1 ed n_ed lz wl LC LS) (cwV 1 hts (jgV (jWr_33 _ (List.mem_of_getElem? (i := 21) rfl)) (jWr_33 _ (List.mem_of_getElem? (i := 22) rfl)) (jWr_33 _ (List.mem_of_getElem? (i := 23) rfl)) (jWr_2 _ (List.mem_of_getElem? (i := 13) rfl)) (jWr_34 _ (List.mem_of_getElem? (i := 0) rfl))) rfl rfl rfl (by decide +kernel) ⟨by rw [← hR]; exact Nat.le_of_ble_eq_true rfl, by rw [← hR]; exact Nat.le_of_ble_eq_true rfl⟩) ⟨fun a U g mk q => by obtain ⟨q0, q1, q2, qK, q10, q11, q12, q13, q14, q15⟩ := q; exact ⟨q0, q1, q2, jG.calling g mk a qK, (jK7.calling g mk a q10), q11, q12, q13, q14, q15⟩, hh.recv (C := RJx4a65c) (T := TJx4a65c) (N := 3) hB1 rfl (by decide) hg_r0 hK, fun U hU hW => ⟨rfl, hU, hh.2.1, hG.step hW hU hh.1, (hK7.step hW hU hh.1), hg_r0, hg_ed, (hh.2.2.1.sub (L1 := [(r0, 1, 1, .ref ed), (r0, 1, 2, .int lz)]) [0, 1] rfl), (hh.2.2.2.2.2.2.2.2.sub (L1 := [(jFl, jLs dC dI ca G0 3 none wl)]) [0] rfl), by first | omega | (refine ⟨?_, ?_, ?_⟩ <;> (first | omega | rfl | assumption | decide | exact Or.inl rfl | exact Or.inr rfl | (simp only; omega)))⟩⟩ rfl rfl hl.1 rfl (lv_room (Nat.le_of_ble_eq_true rfl)) dJx4a65c_grow_d5877_7 ⟨by rw [hRc]; omega, by rw [hRs]; omega⟩) hh.1 (fun q _ h => h) (fun q h => h) (fun r_3 u_2 t_2 H_2 locs_2 ht_2 hvm_2 hr_3 hb_2 hz_2 hk_2 hS_2 => ?_)
  rw [ht_2] at hb_2
  obtain ⟨qa_2, m_qa_2, G_2⟩ := u_2
  simp only at hb_2
  obtain ⟨⟨hb_21, hb_22, hb_23, hb_24, hb_25, hb_26⟩, hgq_2_0, hN_2, hbE_2⟩ := hb_2
  have hh_2 : jSt (dC, dI) B base G0 G_2 EJx4a65c_grow_d5877L2 s.heap (0 + (1)) (0 + (40)) [(r0, 1, 1, .ref qa_2), (r0, 1, 2, .int lz)] [] [] H_2 locs_2 := (hh.callG hb_21 hb_22 hb_23 hb_24 hb_25 hS_2 rfl (L1 := [(r0, 1, 2, .int lz)]) [1] rfl rfl (M1 := []) [] rfl rfl (I1 := []) [] rfl rfl).more hb_26
  have hNn_2 : (jNk [0, 1, 2, 3, 4, 5, 6, 7, 8, 9, 10, 11, 12, 13, 14, 15, 16, 17, 175]) G0 G_2 := (jNk.rf).tr hN_2
  have hg_4 := hb_22 _ _ hg_r0
  have hh_5 := hh_2.addIs hbE_2
  obtain ⟨rfl, hr_3p⟩ := hr_3
  try simp only at hr_3p
  obtain ⟨hr_3p_0, hr_3p_1⟩ := hr_3p
  have hsz_6 := hh_5.2.2.2.2.2.1
  have htt_6 := hh_5.2.2.2.2.2.2.1
  refine W.room (fun hrc_6 hrs_6 => ?_)
  refine W.widen (k := LC - s.heap.size) (n := LS - jTot s.heap) (by omega) (by omega) ?_
  rw [hQ]
  exact W.aret (v := .ref qa_2) hx hb hr (Or.inr ⟨_, rfl⟩) (Or.inr ⟨_, rfl⟩) (fun t ht hW => ⟨⟨.ref qa_2, (qa_2, m_qa_2, G_2), rfl, ⟨rfl, by (try dsimp only); exact ⟨(by first | omega | rfl | assumption | fail), (by first | omega | rfl | assumption | fail)⟩⟩, ⟨hh_5.ra (by first | (simp only; omega) | omega) (by first | (simp only; omega) | omega) (M1 := [(r0, 1, 1, .ref qa_2)]) [0] rfl ht, hgq_2_0, hNn_2, by rw [ht]; exact hh_5.2.2.2.2.2.2.2.2.sub (L1 := [(jFl, jLs dC dI ca G_2 3 none wl)]) [0] rfl⟩⟩, by rw [ht]; try exact hh_5.1.1, fun q h9 hq => by rw [ht]; try exact hh_5.1.2.1 q h9 hq⟩) hh_5.1.2.2 dJx4a65c_grow_d5877_10
set_option maxHeartbeats 4000000 in
set_option maxRecDepth 20000 in
theorem uJx4a65c_add_72be8E2 (l : Launch) (dC : Nat → ClassId) (dI : Nat → Nat → Nat) (ca : Nat → ClassId) (base : Nat) (B : jF) (hB : jBok B) (hAp : jAp (dC, dI)) (hB1 : ∀ n G a H, B 1 n G a H ↔ jOb (dC, dI) 1 3 (F1 n G) a H) (hB10 : ∀ n G a H, B 10 n G a H ↔ jOb (dC, dI) 10 5 (F10 n G) a H) (hB222 : ∀ n G a H, B 222 n G a H ↔ jAq (dC, dI) (ca 9) (jQn 10 0) n G a H) (G0 : jT) (H0 : Heap) (r0 : Nat) (r1 : Nat) (a3 : Int32) (lz : Int32) (wl : jWl9) (LC LS : Nat) : Met l yJx4a65c_add_72be8 (jw yJx4a65c_add_72be8 cJx4a65c_add_72be8 4 none) ({ frames := 5, cells := LC - H0.size, slots := LS - jTot H0, locals := 148 }) (va_Pc [.ref r0, .ref r1, .ref (dI 99 0), .int a3] (fun U => U.heap = H0 ∧ jX B base G0 [] H0 ∧ jG dC dI ca base U ∧ jK7 dC dI ca base U ∧ G0 r0 = some (1, 2) ∧ G0 r1 = some (10, 0) ∧ jP (dC, dI) G0 H0 [(r0, 1, 1, .ref (dI 99 0)), (r0, 1, 2, .int lz)] ∧ jIs (dC, dI) G0 H0 [(jFl, jLs dC dI ca G0 3 none wl)] ∧ H0.size + 1 ≤ LC ∧ jTot H0 + 40 ≤ LS ∧ a3.toInt = lz.toInt ∧ lz.toInt = 0)) (va_Qv (S := Int32 × jT) (fun u => u.1.toInt = lz.toInt + 1) (fun u t => jRa (dC, dI) B base G0 u.2 EJx4a65c_add_72be8E2 H0 (1) (40) [(r0, 1, 2, .int u.1)] t.heap ∧ (jNk [0, 1, 2, 3, 4, 5, 6, 7, 8, 9, 10, 11, 12, 13, 14, 15, 16, 17, 175]) G0 u.2 ∧ jIs (dC, dI) u.2 t.heap [(jFl, jLs dC dI ca u.2 3 none (wl.s2 (wl.2.2.1 ++ [r1])))]) (jA base)) (LC - H0.size) (LS - jTot H0) (jA base) := by
  refine Met.ofW (cc := cJx4a65c_add_72be8) (maxL := 4) (ret := none) (by decide) rfl ?_
  intro p e s m args below meth c s₁ Bd hml hv
  obtain ⟨rfl, hH0, hX, hG, hK7, hg_r0, hg_r1, hP0, hI0, hLC0, hLS0, hp0, hp1⟩ := hv
  have hK := hG.1
  have hx := Bd.exec
  have hb := Bd.bytes
  have hr := Bd.returns
  have hts := atoms_spec (ws := (jw yJx4a65c_add_72be8 cJx4a65c_add_72be8 4 none)) Bd.pre
  have htw : ∀ w ∈ jWl, w.before _ s = true := fun w h => hts w (List.mem_cons_of_mem _ h)
  have hown : s.vm.findClass RJx4a65c = some m.cls := findClass_of_methodNamed Bd.named
  have hlocks := Bd.notSynchronized
  obtain ⟨Q, hQ⟩ : ∃ Q, Q = MQ below (va_Qv (S := Int32 × jT) (fun u => u.1.toInt = lz.toInt + 1) (fun u t => jRa (dC, dI) B base G0 u.2 EJx4a65c_add_72be8E2 H0 (1) (40) [(r0, 1, 2, .int u.1)] t.heap ∧ (jNk [0, 1, 2, 3, 4, 5, 6, 7, 8, 9, 10, 11, 12, 13, 14, 15, 16, 17, 175]) G0 u.2 ∧ jIs (dC, dI) u.2 t.heap [(jFl, jLs dC dI ca u.2 3 none (wl.s2 (wl.2.2.1 ++ [r1])))]) (jA base)) ([.ref r0, .ref r1, .ref (dI 99 0), .int a3] : List Value).toArray s (LC - H0.size) (LS - jTot H0) (jA base) := ⟨_, rfl⟩
  rw [← hQ]
  have hl := lv_entry ([.ref r0, .ref r1, .ref (dI 99 0), .int a3]) (n := 4) (Nat.le_of_ble_eq_true rfl)
  rw [lg_entry_eq]
  generalize (lg_sl ([.ref r0, .ref r1, .ref (dI 99 0), .int a3]) ++ List.replicate (4 - (lg_sl ([.ref r0, .ref r1, .ref (dI 99 0), .int a3])).length) Slot.unset).toArray = ls at hl ⊢
  have hl : lv_has ls 4 [(0, .ref r0), (1, .ref r1), (2, .ref (dI 99 0)), (3, .int a3)] := hl
  generalize hR : (headSpec (jw yJx4a65c_add_72be8 cJx4a65c_add_72be8 4 none) ({ frames := 5, cells := LC - H0.size, slots := LS - jTot H0, locals := 148 })).room = R
  subst hH0
  have hh : jSt (dC, dI) B base G0 G0 EJx4a65c_add_72be8E2 s.heap 0 0 [(r0, 1, 1, .ref (dI 99 0)), (r0, 1, 2, .int lz)] [] [(jFl, jLs dC dI ca G0 3 none wl)] s.heap [] := jSt.start hX hP0 jMc.nil hI0
  clear hX hP0
  have hk0 : (0 : Int32).toInt = 0 := by decide
  have hk1 : (1 : Int32).toInt = 1 := by decide
  have hly_1_2 := htw (u_lay RJx4a65c TJx4a65c 2) (jWc_wsJx4a65c0 _ (u_in_lay (by decide)))
  have hlk_48 := (htw (.fieldLink RJx4a65c 48 "java/util/ArrayList" "size" "I") (jWr_28 _ (List.mem_of_getElem? (i := 2) rfl)))
  have hrg_a3 := jb_rng a3
  have hbs : base ≤ s.heap.size := Nat.le_of_lt (Nat.lt_of_le_of_lt (hh.ab hg_r0).1 (hh.ab hg_r0).2)
  have hRc : R.cells = LC - s.heap.size := by rw [← hR]; rfl
  have hRs : R.slots = LS - jTot s.heap := by rw [← hR]; rfl
  refine lv_iload_n hx hb dJx4a65c_add_72be8_0 rfl (lv_at hl 3 rfl) ?_
  refine lv_aload_n hx hb dJx4a65c_add_72be8_1 rfl (lv_at hl 2 rfl) ?_
  refine va_tlen hx hb hK7.2.2.2.2.2.2.2 hh.1 (v := Int32.ofNat 0) rfl dJx4a65c_add_72be8_2 ?_
  refine lv_topi (fun z_1 ez_1 => ?_)
  have hz_1 : z_1.toInt = 0 := by rw [ez_1]; rfl
  refine lv_icmp_ne (tgt := 11) hx hb dJx4a65c_add_72be8_3 (by decide) (fun c_2 => ?_) (fun c_2 => ?_)
  · skip
    have c_2' : a3.toInt ≠ z_1.toInt := jb_ne (rfl) (rfl) c_2
    exact absurd c_2' (by omega)
  · skip
    have c_2' : a3.toInt = z_1.toInt := jb_ne_n (rfl) (rfl) c_2
    refine lv_aload_n hx hb dJx4a65c_add_72be8_6 rfl (lv_at hl 0 rfl) ?_
    have hsz_3 := hh.2.2.2.2.2.1
    have htt_3 := hh.2.2.2.2.2.2.1
    refine W.room (fun hrc_3 hrs_3 => ?_)
    refine j_callx (A0 := jA base) (H0 := s.heap) (va_runV (As := []) (rest := []) ⟨hx, hb, hml, hown, hts⟩ (uJx4a65c_grow_d5877E2 l dC dI ca base B hB hAp hB1 hB10 hB222 G0 s.heap r0 lz wl LC LS) (cwV 0 hts (jgV (jWr_33 _ (List.mem_of_getElem? (i := 17) rfl)) (jWr_33 _ (List.mem_of_getElem? (i := 18) rfl)) (jWr_33 _ (List.mem_of_getElem? (i := 19) rfl)) (jWr_2 _ (List.mem_of_getElem? (i := 13) rfl)) (jWr_33 _ (List.mem_of_getElem? (i := 20) rfl))) rfl rfl rfl (by decide +kernel) ⟨by rw [← hR]; exact Nat.le_of_ble_eq_true rfl, by rw [← hR]; exact Nat.le_of_ble_eq_true rfl⟩) ⟨fun a U g mk q => by obtain ⟨q0, q1, q2, qK, q10, q11, q12, q13, q14⟩ := q; exact ⟨q0, q1, q2, jG.calling g mk a qK, (jK7.calling g mk a q10), q11, q12, q13, q14⟩, hh.recv (C := RJx4a65c) (T := TJx4a65c) (N := 3) hB1 rfl (by decide) hg_r0 hK, fun U hU hW => ⟨rfl, hU, hh.2.1, hG.step hW hU hh.1, (hK7.step hW hU hh.1), hg_r0, (hh.2.2.1.sub (L1 := [(r0, 1, 1, .ref (dI 99 0)), (r0, 1, 2, .int lz)]) [0, 1] rfl), (hh.2.2.2.2.2.2.2.2.sub (L1 := [(jFl, jLs dC dI ca G0 3 none wl)]) [0] rfl), by first | omega | rfl | assumption | decide | exact Or.inl rfl | exact Or.inr rfl | (simp only; omega)⟩⟩ rfl rfl hl.1 rfl (lv_room (Nat.le_of_ble_eq_true rfl)) dJx4a65c_add_72be8_7 ⟨by rw [hRc]; omega, by rw [hRs]; omega⟩) hh.1 (fun q _ h => h) (fun q h => h) (fun r_4 u_3 t_3 H_3 locs_3 ht_3 hvm_3 hr_4 hb_3 hz_3 hk_3 hS_3 => ?_)
    rw [ht_3] at hb_3
    obtain ⟨qa_3, m_qa_3, G_3⟩ := u_3
    simp only at hb_3
    obtain ⟨⟨hb_31, hb_32, hb_33, hb_34, hb_35, hb_36⟩, hgq_3_0, hN_3, hbE_3⟩ := hb_3
    have hh_3 : jSt (dC, dI) B base G0 G_3 EJx4a65c_add_72be8E2 s.heap (0 + (1)) (0 + (40)) [(r0, 1, 1, .ref qa_3), (r0, 1, 2, .int lz)] [] [] H_3 locs_3 := (hh.callG hb_31 hb_32 hb_33 hb_34 hb_35 hS_3 rfl (L1 := [(r0, 1, 2, .int lz)]) [1] rfl rfl (M1 := []) [] rfl rfl (I1 := []) [] rfl rfl).more hb_36
    have hNn_3 : (jNk [0, 1, 2, 3, 4, 5, 6, 7, 8, 9, 10, 11, 12, 13, 14, 15, 16, 17, 175]) G0 G_3 := (jNk.rf).tr hN_3
    have hg_5 := hb_32 _ _ hg_r0
    have hg_6 := hb_32 _ _ hg_r1
    have hh_7 := hh_3.addIs hbE_3
    obtain ⟨rfl, hr_4p⟩ := hr_4
    try simp only at hr_4p
    refine lv_astore_n (lv' := [(2, .ref qa_3), (0, .ref r0), (1, .ref r1), (3, .int a3)]) hx hb dJx4a65c_add_72be8_10 rfl hl (by decide) rfl (fun ls hl => ?_)
    obtain ⟨lz_8, lx_8, hl1_8, hl2_8, hl3_8, hl4_8⟩ := jLs.at (hh_7.iv 0 rfl) hg_5
    obtain rfl : lz = lz_8 := Value.int.inj (jf.uniq (hh_7.at 1 rfl) hl1_8)
    have hl3_8 : 0 ≤ lz.toInt ∧ lz.toInt ≤ 12 := hl3_8
    obtain rfl : qa_3 = lx_8 := Value.ref.inj (jf.uniq (hh_7.at 0 rfl) hl2_8)
    rcases hl4_8 with ⟨hl9_8, hl5_8, hl0_8, hlE_8⟩ | ⟨lm_8, lf_8, hg_lx_8, hlm_8, hl6_8, hl7_8, hl8_8, hlw_8, hlY_8⟩
    · skip
      exact absurd (show base ≤ dI 99 0 by rw [← hl9_8]; exact (hh_7.ab hgq_3_0).1) (va_T.out hK7.2.2.2.2.2.2.2)
    · skip
      obtain rfl : m_qa_3 = lm_8 := by have h9 := Option.some.inj (hgq_3_0.symm.trans hg_lx_8); exact congrArg Prod.snd h9
      have hd_9 := jLs.less (hh_7.iv 0 rfl) r0
      have hh_10 := hh_7.sub (L1 := [(r0, 1, 1, .ref qa_3), (r0, 1, 2, .int lz)]) [0, 1] rfl (M1 := []) [] rfl (I1 := []) [] rfl
      clear hh_7
      have hh_11 := hh_10.addI (jLs.ie hd_9)
      clear hh_10
      have hh_12 := hh_11.addI (jQc.ie hl7_8 hg_lx_8 (by decide) (by decide))
      clear hh_11
      refine lv_aload_n hx hb dJx4a65c_add_72be8_11 rfl (lv_at hl 0 rfl) ?_
      refine lv_iload_n hx hb dJx4a65c_add_72be8_12 rfl (lv_at hl 3 rfl) ?_
      refine lv_aload_n hx hb dJx4a65c_add_72be8_13 rfl (lv_at hl 2 rfl) ?_
      have hd_14 := hh_12.iv 0 rfl
      have hd_15 := hh_12.iv 1 rfl
      have hh_17 := hh_12.sub (L1 := [(r0, 1, 1, .ref qa_3), (r0, 1, 2, .int lz)]) [0, 1] rfl (M1 := []) [] rfl (I1 := []) [] rfl
      clear hh_12
      refine j7_qastO hx hb hK hK7.1 hh_17 hB hB222 0 rfl (by decide) (by decide) rfl rfl rfl hgq_3_0 (x := a3.toInt) (rfl) (by omega) hB10 (T := TX8) (N := 5) rfl (by decide) hg_6 hK7.2.2.1.2.1.1 (Or.inr ⟨_, rfl, hg_6⟩) hd_14 dJx4a65c_add_72be8_14 (fun H_13 locs_13 fq_16 hv_13 ho_13 hq_13 hr_13 hh_13 => ?_)
      clear hh_17
      have hd_15n := jLs.arr hd_15 hg_5 hgq_3_0 hr_13
      have hh_18 := hh_13.addI (jLs.ie hd_15n)
      clear hh_13
      have hh_19 := hh_18.addI (hq_13.ie hgq_3_0 (by decide) (by decide))
      clear hh_18
      clear hd_14 hd_15 hd_15n hr_13
      refine lv_aload_n hx hb dJx4a65c_add_72be8_15 rfl (lv_at hl 1 rfl) ?_
      refine lv_iload_n hx hb dJx4a65c_add_72be8_16 rfl (lv_at hl 3 rfl) ?_
      refine lv_iconst (v := 1) hx hb dJx4a65c_add_72be8_17 (by decide) ?_
      refine lv_iadd hx hb dJx4a65c_add_72be8_18 ?_
      refine lv_topi (fun z_20 ez_20 => ?_)
      have hz_20 : z_20.toInt = a3.toInt + 1 := by rw [ez_20]; exact jb_iadd2 (rfl) ((by decide)) (by omega)
      have hd_22 := hh_19.iv 1 rfl
      have hh_23 := hh_19.sub (L1 := [(r0, 1, 1, .ref qa_3), (r0, 1, 2, .int lz)]) [0, 1] rfl (M1 := []) [] rfl (I1 := [([(222, 0)], jQc dC dI (ca 9) qa_3 m_qa_3 fq_16)]) [0] rfl
      clear hh_19
      refine j7_putX hx hb hown hK hh_23 hB hAp hB1 (C := RJx4a65c) (T := TJx4a65c) (N := 3) rfl (by decide) hg_5 (i := 2) (by decide) hly_1_2 rfl hlk_48 rfl (ty := .int) (v := .int z_20) (by decide +kernel) rfl rfl (⟨_, rfl, by omega, by omega⟩) rfl (L1 := [(r0, 1, 1, .ref qa_3)]) [0] rfl rfl rfl dJx4a65c_add_72be8_19 (fun H_21 locs_21 hr_21 hh_21 => ?_)
      clear hh_23
      have hd_22n := jLs.fld hd_22 hg_5 hr_21
      have hh_24 := hh_21.addI (jLs.ie hd_22n)
      clear hh_21
      clear hd_22 hd_22n hr_21
      have hd_25 := jLs.full (wn := (wl.s2 (wl.2.2.1 ++ [r1]))) (hh_24.iv 0 rfl) hg_5 ⟨_, _, hh_24.at 0 rfl, hh_24.at 1 rfl, ⟨by omega, (show _ ≤ (12 : Int) by omega)⟩, Or.inr ⟨_, _, hgq_3_0, by omega, by omega, hh_24.iv 1 rfl, jAd.put hl8_8 (by omega) (by omega) (by omega) (by omega) hv_13 ho_13, (fun q => absurd q (by decide)), jWm.put rfl hlY_8 (by omega) (by omega) (by omega) (by omega) hv_13 ho_13⟩⟩ ⟨fun _ => ⟨rfl, rfl⟩, fun q => absurd rfl q, fun _ => rfl⟩
      have hh_26 := hh_24.sub (L1 := [(r0, 1, 2, .int z_20), (r0, 1, 1, .ref qa_3)]) [0, 1] rfl (M1 := []) [] rfl (I1 := [([(222, 0)], jQc dC dI (ca 9) qa_3 m_qa_3 fq_16)]) [1] rfl
      clear hh_24
      have hh_27 := hh_26.addI (jLs.ie hd_25)
      clear hh_26
      have hsz_28 := hh_27.2.2.2.2.2.1
      have htt_28 := hh_27.2.2.2.2.2.2.1
      refine W.room (fun hrc_28 hrs_28 => ?_)
      refine W.widen (k := LC - s.heap.size) (n := LS - jTot s.heap) (by omega) (by omega) ?_
      rw [hQ]
      exact W.vret hx hb hr (fun t ht hW => ⟨⟨(z_20, G_3), rfl, by (try dsimp only); first | omega | rfl | assumption | fail, ⟨hh_27.ra (by first | (simp only; omega) | omega) (by first | (simp only; omega) | omega) (M1 := [(r0, 1, 2, .int z_20)]) [0] rfl ht, hNn_3, by rw [ht]; exact hh_27.2.2.2.2.2.2.2.2.sub (L1 := [(jFl, jLs dC dI ca G_3 3 none (wl.s2 (wl.2.2.1 ++ [r1])))]) [0] rfl⟩⟩, by rw [ht]; try exact hh_27.1.1, fun q h9 hq => by rw [ht]; try exact hh_27.1.2.1 q h9 hq⟩) hh_27.1.2.2 dJx4a65c_add_72be8_22
set_option maxHeartbeats 4000000 in
set_option maxRecDepth 20000 in
theorem uJx4a65c_add_72be8L2 (l : Launch) (dC : Nat → ClassId) (dI : Nat → Nat → Nat) (ca : Nat → ClassId) (base : Nat) (B : jF) (hB : jBok B) (hAp : jAp (dC, dI)) (hB1 : ∀ n G a H, B 1 n G a H ↔ jOb (dC, dI) 1 3 (F1 n G) a H) (hB10 : ∀ n G a H, B 10 n G a H ↔ jOb (dC, dI) 10 5 (F10 n G) a H) (hB222 : ∀ n G a H, B 222 n G a H ↔ jAq (dC, dI) (ca 9) (jQn 10 0) n G a H) (G0 : jT) (H0 : Heap) (r0 : Nat) (r1 : Nat) (r2 : Nat) (a3 : Int32) (n2 : Nat) (lz : Int32) (wl : jWl9) (LC LS : Nat) : Met l yJx4a65c_add_72be8 (jw yJx4a65c_add_72be8 cJx4a65c_add_72be8 4 none) ({ frames := 5, cells := LC - H0.size, slots := LS - jTot H0, locals := 148 }) (va_Pc [.ref r0, .ref r1, .ref r2, .int a3] (fun U => U.heap = H0 ∧ jX B base G0 [] H0 ∧ jG dC dI ca base U ∧ jK7 dC dI ca base U ∧ G0 r0 = some (1, 2) ∧ G0 r1 = some (10, 0) ∧ G0 r2 = some (222, n2) ∧ jP (dC, dI) G0 H0 [(r0, 1, 1, .ref r2), (r0, 1, 2, .int lz)] ∧ jIs (dC, dI) G0 H0 [(jFl, jLs dC dI ca G0 3 none wl)] ∧ H0.size + 1 ≤ LC ∧ jTot H0 + 40 ≤ LS ∧ a3.toInt = lz.toInt ∧ 0 ≤ lz.toInt ∧ lz.toInt < 12 ∧ n2 ≤ 40)) (va_Qv (S := Int32 × jT) (fun u => u.1.toInt = lz.toInt + 1) (fun u t => jRa (dC, dI) B base G0 u.2 EJx4a65c_add_72be8L2 H0 (1) (40) [(r0, 1, 2, .int u.1)] t.heap ∧ (jNk [0, 1, 2, 3, 4, 5, 6, 7, 8, 9, 10, 11, 12, 13, 14, 15, 16, 17, 175]) G0 u.2 ∧ jIs (dC, dI) u.2 t.heap [(jFl, jLs dC dI ca u.2 3 none (wl.s2 (wl.2.2.1 ++ [r1])))]) (jA base)) (LC - H0.size) (LS - jTot H0) (jA base) := by
  refine Met.ofW (cc := cJx4a65c_add_72be8) (maxL := 4) (ret := none) (by decide) rfl ?_
  intro p e s m args below meth c s₁ Bd hml hv
  obtain ⟨rfl, hH0, hX, hG, hK7, hg_r0, hg_r1, hg_r2, hP0, hI0, hLC0, hLS0, hp0, hp1, hp2, hp3⟩ := hv
  have hK := hG.1
  have hx := Bd.exec
  have hb := Bd.bytes
  have hr := Bd.returns
  have hts := atoms_spec (ws := (jw yJx4a65c_add_72be8 cJx4a65c_add_72be8 4 none)) Bd.pre
  have htw : ∀ w ∈ jWl, w.before _ s = true := fun w h => hts w (List.mem_cons_of_mem _ h)
  have hown : s.vm.findClass RJx4a65c = some m.cls := findClass_of_methodNamed Bd.named
  have hlocks := Bd.notSynchronized
  obtain ⟨Q, hQ⟩ : ∃ Q, Q = MQ below (va_Qv (S := Int32 × jT) (fun u => u.1.toInt = lz.toInt + 1) (fun u t => jRa (dC, dI) B base G0 u.2 EJx4a65c_add_72be8L2 H0 (1) (40) [(r0, 1, 2, .int u.1)] t.heap ∧ (jNk [0, 1, 2, 3, 4, 5, 6, 7, 8, 9, 10, 11, 12, 13, 14, 15, 16, 17, 175]) G0 u.2 ∧ jIs (dC, dI) u.2 t.heap [(jFl, jLs dC dI ca u.2 3 none (wl.s2 (wl.2.2.1 ++ [r1])))]) (jA base)) ([.ref r0, .ref r1, .ref r2, .int a3] : List Value).toArray s (LC - H0.size) (LS - jTot H0) (jA base) := ⟨_, rfl⟩
  rw [← hQ]
  have hl := lv_entry ([.ref r0, .ref r1, .ref r2, .int a3]) (n := 4) (Nat.le_of_ble_eq_true rfl)
  rw [lg_entry_eq]
  generalize (lg_sl ([.ref r0, .ref r1, .ref r2, .int a3]) ++ List.replicate (4 - (lg_sl ([.ref r0, .ref r1, .ref r2, .int a3])).length) Slot.unset).toArray = ls at hl ⊢
  have hl : lv_has ls 4 [(0, .ref r0), (1, .ref r1), (2, .ref r2), (3, .int a3)] := hl
  generalize hR : (headSpec (jw yJx4a65c_add_72be8 cJx4a65c_add_72be8 4 none) ({ frames := 5, cells := LC - H0.size, slots := LS - jTot H0, locals := 148 })).room = R
  subst hH0
  have hh : jSt (dC, dI) B base G0 G0 EJx4a65c_add_72be8L2 s.heap 0 0 [(r0, 1, 1, .ref r2), (r0, 1, 2, .int lz)] [] [(jFl, jLs dC dI ca G0 3 none wl)] s.heap [] := jSt.start hX hP0 jMc.nil hI0
  clear hX hP0
  have hk0 : (0 : Int32).toInt = 0 := by decide
  have hk1 : (1 : Int32).toInt = 1 := by decide
  have hly_1_2 := htw (u_lay RJx4a65c TJx4a65c 2) (jWc_wsJx4a65c0 _ (u_in_lay (by decide)))
  have hlk_48 := (htw (.fieldLink RJx4a65c 48 "java/util/ArrayList" "size" "I") (jWr_28 _ (List.mem_of_getElem? (i := 2) rfl)))
  have hrg_a3 := jb_rng a3
  have hbs : base ≤ s.heap.size := Nat.le_of_lt (Nat.lt_of_le_of_lt (hh.ab hg_r0).1 (hh.ab hg_r0).2)
  have hRc : R.cells = LC - s.heap.size := by rw [← hR]; rfl
  have hRs : R.slots = LS - jTot s.heap := by rw [← hR]; rfl
  refine lv_iload_n hx hb dJx4a65c_add_72be8_0 rfl (lv_at hl 3 rfl) ?_
  refine lv_aload_n hx hb dJx4a65c_add_72be8_1 rfl (lv_at hl 2 rfl) ?_
  refine j7_qlen hx hb hK7.1 hh hB222 0 rfl (by decide) hg_r2 (by omega) dJx4a65c_add_72be8_2 (fun z_1 hz_1 => ?_)
  refine lv_icmp_ne (tgt := 11) hx hb dJx4a65c_add_72be8_3 (by decide) (fun c_2 => ?_) (fun c_2 => ?_)
  · skip
    have c_2' : a3.toInt ≠ z_1.toInt := jb_ne (rfl) (rfl) c_2
    obtain ⟨lz_3, lx_3, hl1_3, hl2_3, hl3_3, hl4_3⟩ := jLs.at (hh.iv 0 rfl) hg_r0
    obtain rfl : lz = lz_3 := Value.int.inj (jf.uniq (hh.at 1 rfl) hl1_3)
    have hl3_3 : 0 ≤ lz.toInt ∧ lz.toInt ≤ 12 := hl3_3
    obtain rfl : r2 = lx_3 := Value.ref.inj (jf.uniq (hh.at 0 rfl) hl2_3)
    rcases hl4_3 with ⟨hl9_3, hl5_3, hl0_3, hlE_3⟩ | ⟨lm_3, lf_3, hg_lx_3, hlm_3, hl6_3, hl7_3, hl8_3, hlw_3, hlY_3⟩
    · skip
      exact absurd (show base ≤ dI 99 0 by rw [← hl9_3]; exact (hh.ab hg_r2).1) (va_T.out hK7.2.2.2.2.2.2.2)
    · skip
      obtain rfl : n2 = lm_3 := by have h9 := Option.some.inj (hg_r2.symm.trans hg_lx_3); exact congrArg Prod.snd h9
      have hd_4 := jLs.less (hh.iv 0 rfl) r0
      have hh_5 := hh.sub (L1 := [(r0, 1, 1, .ref r2), (r0, 1, 2, .int lz)]) [0, 1] rfl (M1 := []) [] rfl (I1 := []) [] rfl
      clear hh
      have hh_6 := hh_5.addI (jLs.ie hd_4)
      clear hh_5
      have hh_7 := hh_6.addI (jQc.ie hl7_3 hg_lx_3 (by decide) (by decide))
      clear hh_6
      refine lv_aload_n hx hb dJx4a65c_add_72be8_11 rfl (lv_at hl 2 rfl) ?_
      refine lv_iload_n hx hb dJx4a65c_add_72be8_12 rfl (lv_at hl 3 rfl) ?_
      refine lv_aload_n hx hb dJx4a65c_add_72be8_13 rfl (lv_at hl 1 rfl) ?_
      have hd_9 := hh_7.iv 0 rfl
      have hd_10 := hh_7.iv 1 rfl
      have hh_12 := hh_7.sub (L1 := [(r0, 1, 1, .ref r2), (r0, 1, 2, .int lz)]) [0, 1] rfl (M1 := []) [] rfl (I1 := []) [] rfl
      clear hh_7
      refine j7_qastO hx hb hK hK7.1 hh_12 hB hB222 0 rfl (by decide) (by decide) rfl rfl rfl hg_r2 (x := a3.toInt) (rfl) (by omega) hB10 (T := TX8) (N := 5) rfl (by decide) hg_r1 hK7.2.2.1.2.1.1 (Or.inr ⟨_, rfl, hg_r1⟩) hd_9 dJx4a65c_add_72be8_14 (fun H_8 locs_8 fq_11 hv_8 ho_8 hq_8 hr_8 hh_8 => ?_)
      clear hh_12
      have hd_10n := jLs.arr hd_10 hg_r0 hg_r2 hr_8
      have hh_13 := hh_8.addI (jLs.ie hd_10n)
      clear hh_8
      have hh_14 := hh_13.addI (hq_8.ie hg_r2 (by decide) (by decide))
      clear hh_13
      clear hd_9 hd_10 hd_10n hr_8
      refine lv_aload_n hx hb dJx4a65c_add_72be8_15 rfl (lv_at hl 0 rfl) ?_
      refine lv_iload_n hx hb dJx4a65c_add_72be8_16 rfl (lv_at hl 3 rfl) ?_
      refine lv_iconst (v := 1) hx hb dJx4a65c_add_72be8_17 (by decide) ?_
      refine lv_iadd hx hb dJx4a65c_add_72be8_18 ?_
      refine lv_topi (fun z_15 ez_15 => ?_)
      have hz_15 : z_15.toInt = a3.toInt + 1 := by rw [ez_15]; exact jb_iadd2 (rfl) ((by decide)) (by omega)
      have hd_17 := hh_14.iv 1 rfl
      have hh_18 := hh_14.sub (L1 := [(r0, 1, 1, .ref r2), (r0, 1, 2, .int lz)]) [0, 1] rfl (M1 := []) [] rfl (I1 := [([(222, 0)], jQc dC dI (ca 9) r2 n2 fq_11)]) [0] rfl
      clear hh_14
      refine j7_putX hx hb hown hK hh_18 hB hAp hB1 (C := RJx4a65c) (T := TJx4a65c) (N := 3) rfl (by decide) hg_r0 (i := 2) (by decide) hly_1_2 rfl hlk_48 rfl (ty := .int) (v := .int z_15) (by decide +kernel) rfl rfl (⟨_, rfl, by omega, by omega⟩) rfl (L1 := [(r0, 1, 1, .ref r2)]) [0] rfl rfl rfl dJx4a65c_add_72be8_19 (fun H_16 locs_16 hr_16 hh_16 => ?_)
      clear hh_18
      have hd_17n := jLs.fld hd_17 hg_r0 hr_16
      have hh_19 := hh_16.addI (jLs.ie hd_17n)
      clear hh_16
      clear hd_17 hd_17n hr_16
      have hd_20 := jLs.full (wn := (wl.s2 (wl.2.2.1 ++ [r1]))) (hh_19.iv 0 rfl) hg_r0 ⟨_, _, hh_19.at 0 rfl, hh_19.at 1 rfl, ⟨by omega, (show _ ≤ (12 : Int) by omega)⟩, Or.inr ⟨_, _, hg_r2, by omega, by omega, hh_19.iv 1 rfl, jAd.put hl8_3 (by omega) (by omega) (by omega) (by omega) hv_8 ho_8, (fun q => absurd q (by decide)), jWm.put rfl hlY_3 (by omega) (by omega) (by omega) (by omega) hv_8 ho_8⟩⟩ ⟨fun _ => ⟨rfl, rfl⟩, fun q => absurd rfl q, fun _ => rfl⟩
      have hh_21 := hh_19.sub (L1 := [(r0, 1, 2, .int z_15), (r0, 1, 1, .ref r2)]) [0, 1] rfl (M1 := []) [] rfl (I1 := [([(222, 0)], jQc dC dI (ca 9) r2 n2 fq_11)]) [1] rfl
      clear hh_19
      have hh_22 := hh_21.addI (jLs.ie hd_20)
      clear hh_21
      have hsz_23 := hh_22.2.2.2.2.2.1
      have htt_23 := hh_22.2.2.2.2.2.2.1
      refine W.room (fun hrc_23 hrs_23 => ?_)
      refine W.widen (k := LC - s.heap.size) (n := LS - jTot s.heap) (by omega) (by omega) ?_
      rw [hQ]
      exact W.vret hx hb hr (fun t ht hW => ⟨⟨(z_15, G0), rfl, by (try dsimp only); first | omega | rfl | assumption | fail, ⟨hh_22.ra (by first | (simp only; omega) | omega) (by first | (simp only; omega) | omega) (M1 := [(r0, 1, 2, .int z_15)]) [0] rfl ht, jNk.rf, by rw [ht]; exact hh_22.2.2.2.2.2.2.2.2.sub (L1 := [(jFl, jLs dC dI ca G0 3 none (wl.s2 (wl.2.2.1 ++ [r1])))]) [0] rfl⟩⟩, by rw [ht]; try exact hh_22.1.1, fun q h9 hq => by rw [ht]; try exact hh_22.1.2.1 q h9 hq⟩) hh_22.1.2.2 dJx4a65c_add_72be8_22
  · skip
    have c_2' : a3.toInt = z_1.toInt := jb_ne_n (rfl) (rfl) c_2
    refine lv_aload_n hx hb dJx4a65c_add_72be8_6 rfl (lv_at hl 0 rfl) ?_
    have hsz_24 := hh.2.2.2.2.2.1
    have htt_24 := hh.2.2.2.2.2.2.1
    refine W.room (fun hrc_24 hrs_24 => ?_)
    refine j_callx (A0 := jA base) (H0 := s.heap) (va_runV (As := []) (rest := []) ⟨hx, hb, hml, hown, hts⟩ (uJx4a65c_grow_d5877L2 l dC dI ca base B hB hAp hB1 hB10 hB222 G0 s.heap r0 r2 n2 lz wl LC LS) (cwV 0 hts (jgV (jWr_33 _ (List.mem_of_getElem? (i := 17) rfl)) (jWr_33 _ (List.mem_of_getElem? (i := 18) rfl)) (jWr_33 _ (List.mem_of_getElem? (i := 19) rfl)) (jWr_2 _ (List.mem_of_getElem? (i := 13) rfl)) (jWr_33 _ (List.mem_of_getElem? (i := 20) rfl))) rfl rfl rfl (by decide +kernel) ⟨by rw [← hR]; exact Nat.le_of_ble_eq_true rfl, by rw [← hR]; exact Nat.le_of_ble_eq_true rfl⟩) ⟨fun a U g mk q => by obtain ⟨q0, q1, q2, qK, q10, q11, q12, q13, q14, q15⟩ := q; exact ⟨q0, q1, q2, jG.calling g mk a qK, (jK7.calling g mk a q10), q11, q12, q13, q14, q15⟩, hh.recv (C := RJx4a65c) (T := TJx4a65c) (N := 3) hB1 rfl (by decide) hg_r0 hK, fun U hU hW => ⟨rfl, hU, hh.2.1, hG.step hW hU hh.1, (hK7.step hW hU hh.1), hg_r0, hg_r2, (hh.2.2.1.sub (L1 := [(r0, 1, 1, .ref r2), (r0, 1, 2, .int lz)]) [0, 1] rfl), (hh.2.2.2.2.2.2.2.2.sub (L1 := [(jFl, jLs dC dI ca G0 3 none wl)]) [0] rfl), by first | omega | (refine ⟨?_, ?_⟩ <;> (first | omega | rfl | assumption | decide | exact Or.inl rfl | exact Or.inr rfl | (simp only; omega)))⟩⟩ rfl rfl hl.1 rfl (lv_room (Nat.le_of_ble_eq_true rfl)) dJx4a65c_add_72be8_7 ⟨by rw [hRc]; omega, by rw [hRs]; omega⟩) hh.1 (fun q _ h => h) (fun q h => h) (fun r_25 u_24 t_24 H_24 locs_24 ht_24 hvm_24 hr_25 hb_24 hz_24 hk_24 hS_24 => ?_)
    rw [ht_24] at hb_24
    obtain ⟨qa_24, m_qa_24, G_24⟩ := u_24
    simp only at hb_24
    obtain ⟨⟨hb_241, hb_242, hb_243, hb_244, hb_245, hb_246⟩, hgq_24_0, hN_24, hbE_24⟩ := hb_24
    have hh_24 : jSt (dC, dI) B base G0 G_24 EJx4a65c_add_72be8L2 s.heap (0 + (1)) (0 + (40)) [(r0, 1, 1, .ref qa_24), (r0, 1, 2, .int lz)] [] [] H_24 locs_24 := (hh.callG hb_241 hb_242 hb_243 hb_244 hb_245 hS_24 rfl (L1 := [(r0, 1, 2, .int lz)]) [1] rfl rfl (M1 := []) [] rfl rfl (I1 := []) [] rfl rfl).more hb_246
    have hNn_24 : (jNk [0, 1, 2, 3, 4, 5, 6, 7, 8, 9, 10, 11, 12, 13, 14, 15, 16, 17, 175]) G0 G_24 := (jNk.rf).tr hN_24
    have hg_26 := hb_242 _ _ hg_r0
    have hg_27 := hb_242 _ _ hg_r1
    have hg_28 := hb_242 _ _ hg_r2
    have hh_29 := hh_24.addIs hbE_24
    obtain ⟨rfl, hr_25p⟩ := hr_25
    try simp only at hr_25p
    obtain ⟨hr_25p_0, hr_25p_1⟩ := hr_25p
    refine lv_astore_n (lv' := [(2, .ref qa_24), (0, .ref r0), (1, .ref r1), (3, .int a3)]) hx hb dJx4a65c_add_72be8_10 rfl hl (by decide) rfl (fun ls hl => ?_)
    obtain ⟨lz_30, lx_30, hl1_30, hl2_30, hl3_30, hl4_30⟩ := jLs.at (hh_29.iv 0 rfl) hg_26
    obtain rfl : lz = lz_30 := Value.int.inj (jf.uniq (hh_29.at 1 rfl) hl1_30)
    have hl3_30 : 0 ≤ lz.toInt ∧ lz.toInt ≤ 12 := hl3_30
    obtain rfl : qa_24 = lx_30 := Value.ref.inj (jf.uniq (hh_29.at 0 rfl) hl2_30)
    rcases hl4_30 with ⟨hl9_30, hl5_30, hl0_30, hlE_30⟩ | ⟨lm_30, lf_30, hg_lx_30, hlm_30, hl6_30, hl7_30, hl8_30, hlw_30, hlY_30⟩
    · skip
      exact absurd (show base ≤ dI 99 0 by rw [← hl9_30]; exact (hh_29.ab hgq_24_0).1) (va_T.out hK7.2.2.2.2.2.2.2)
    · skip
      obtain rfl : m_qa_24 = lm_30 := by have h9 := Option.some.inj (hgq_24_0.symm.trans hg_lx_30); exact congrArg Prod.snd h9
      have hd_31 := jLs.less (hh_29.iv 0 rfl) r0
      have hh_32 := hh_29.sub (L1 := [(r0, 1, 1, .ref qa_24), (r0, 1, 2, .int lz)]) [0, 1] rfl (M1 := []) [] rfl (I1 := []) [] rfl
      clear hh_29
      have hh_33 := hh_32.addI (jLs.ie hd_31)
      clear hh_32
      have hh_34 := hh_33.addI (jQc.ie hl7_30 hg_lx_30 (by decide) (by decide))
      clear hh_33
      refine lv_aload_n hx hb dJx4a65c_add_72be8_11 rfl (lv_at hl 0 rfl) ?_
      refine lv_iload_n hx hb dJx4a65c_add_72be8_12 rfl (lv_at hl 3 rfl) ?_
      refine lv_aload_n hx hb dJx4a65c_add_72be8_13 rfl (lv_at hl 2 rfl) ?_
      have hd_36 := hh_34.iv 0 rfl
      have hd_37 := hh_34.iv 1 rfl
      have hh_39 := hh_34.sub (L1 := [(r0, 1, 1, .ref qa_24), (r0, 1, 2, .int lz)]) [0, 1] rfl (M1 := []) [] rfl (I1 := []) [] rfl
      clear hh_34
      refine j7_qastO hx hb hK hK7.1 hh_39 hB hB222 0 rfl (by decide) (by decide) rfl rfl rfl hgq_24_0 (x := a3.toInt) (rfl) (by omega) hB10 (T := TX8) (N := 5) rfl (by decide) hg_27 hK7.2.2.1.2.1.1 (Or.inr ⟨_, rfl, hg_27⟩) hd_36 dJx4a65c_add_72be8_14 (fun H_35 locs_35 fq_38 hv_35 ho_35 hq_35 hr_35 hh_35 => ?_)
      clear hh_39
      have hd_37n := jLs.arr hd_37 hg_26 hgq_24_0 hr_35
      have hh_40 := hh_35.addI (jLs.ie hd_37n)
      clear hh_35
      have hh_41 := hh_40.addI (hq_35.ie hgq_24_0 (by decide) (by decide))
      clear hh_40
      clear hd_36 hd_37 hd_37n hr_35
      refine lv_aload_n hx hb dJx4a65c_add_72be8_15 rfl (lv_at hl 1 rfl) ?_
      refine lv_iload_n hx hb dJx4a65c_add_72be8_16 rfl (lv_at hl 3 rfl) ?_
      refine lv_iconst (v := 1) hx hb dJx4a65c_add_72be8_17 (by decide) ?_
      refine lv_iadd hx hb dJx4a65c_add_72be8_18 ?_
      refine lv_topi (fun z_42 ez_42 => ?_)
      have hz_42 : z_42.toInt = a3.toInt + 1 := by rw [ez_42]; exact jb_iadd2 (rfl) ((by decide)) (by omega)
      have hd_44 := hh_41.iv 1 rfl
      have hh_45 := hh_41.sub (L1 := [(r0, 1, 1, .ref qa_24), (r0, 1, 2, .int lz)]) [0, 1] rfl (M1 := []) [] rfl (I1 := [([(222, 0)], jQc dC dI (ca 9) qa_24 m_qa_24 fq_38)]) [0] rfl
      clear hh_41
      refine j7_putX hx hb hown hK hh_45 hB hAp hB1 (C := RJx4a65c) (T := TJx4a65c) (N := 3) rfl (by decide) hg_26 (i := 2) (by decide) hly_1_2 rfl hlk_48 rfl (ty := .int) (v := .int z_42) (by decide +kernel) rfl rfl (⟨_, rfl, by omega, by omega⟩) rfl (L1 := [(r0, 1, 1, .ref qa_24)]) [0] rfl rfl rfl dJx4a65c_add_72be8_19 (fun H_43 locs_43 hr_43 hh_43 => ?_)
      clear hh_45
      have hd_44n := jLs.fld hd_44 hg_26 hr_43
      have hh_46 := hh_43.addI (jLs.ie hd_44n)
      clear hh_43
      clear hd_44 hd_44n hr_43
      have hd_47 := jLs.full (wn := (wl.s2 (wl.2.2.1 ++ [r1]))) (hh_46.iv 0 rfl) hg_26 ⟨_, _, hh_46.at 0 rfl, hh_46.at 1 rfl, ⟨by omega, (show _ ≤ (12 : Int) by omega)⟩, Or.inr ⟨_, _, hgq_24_0, by omega, by omega, hh_46.iv 1 rfl, jAd.put hl8_30 (by omega) (by omega) (by omega) (by omega) hv_35 ho_35, (fun q => absurd q (by decide)), jWm.put rfl hlY_30 (by omega) (by omega) (by omega) (by omega) hv_35 ho_35⟩⟩ ⟨fun _ => ⟨rfl, rfl⟩, fun q => absurd rfl q, fun _ => rfl⟩
      have hh_48 := hh_46.sub (L1 := [(r0, 1, 2, .int z_42), (r0, 1, 1, .ref qa_24)]) [0, 1] rfl (M1 := []) [] rfl (I1 := [([(222, 0)], jQc dC dI (ca 9) qa_24 m_qa_24 fq_38)]) [1] rfl
      clear hh_46
      have hh_49 := hh_48.addI (jLs.ie hd_47)
      clear hh_48
      have hsz_50 := hh_49.2.2.2.2.2.1
      have htt_50 := hh_49.2.2.2.2.2.2.1
      refine W.room (fun hrc_50 hrs_50 => ?_)
      refine W.widen (k := LC - s.heap.size) (n := LS - jTot s.heap) (by omega) (by omega) ?_
      rw [hQ]
      exact W.vret hx hb hr (fun t ht hW => ⟨⟨(z_42, G_24), rfl, by (try dsimp only); first | omega | rfl | assumption | fail, ⟨hh_49.ra (by first | (simp only; omega) | omega) (by first | (simp only; omega) | omega) (M1 := [(r0, 1, 2, .int z_42)]) [0] rfl ht, hNn_24, by rw [ht]; exact hh_49.2.2.2.2.2.2.2.2.sub (L1 := [(jFl, jLs dC dI ca G_24 3 none (wl.s2 (wl.2.2.1 ++ [r1])))]) [0] rfl⟩⟩, by rw [ht]; try exact hh_49.1.1, fun q h9 hq => by rw [ht]; try exact hh_49.1.2.1 q h9 hq⟩) hh_49.1.2.2 dJx4a65c_add_72be8_22
set_option maxHeartbeats 4000000 in
set_option maxRecDepth 20000 in
theorem uJx4a65c_add_9ea2dL2 (l : Launch) (dC : Nat → ClassId) (dI : Nat → Nat → Nat) (ca : Nat → ClassId) (base : Nat) (B : jF) (hB : jBok B) (hAp : jAp (dC, dI)) (hB1 : ∀ n G a H, B 1 n G a H ↔ jOb (dC, dI) 1 3 (F1 n G) a H) (hB10 : ∀ n G a H, B 10 n G a H ↔ jOb (dC, dI) 10 5 (F10 n G) a H) (hB222 : ∀ n G a H, B 222 n G a H ↔ jAq (dC, dI) (ca 9) (jQn 10 0) n G a H) (G0 : jT) (H0 : Heap) (r0 : Nat) (r1 : Nat) (lz : Int32) (wl : jWl9) (LC LS : Nat) : Met l yJx4a65c_add_9ea2d (jw yJx4a65c_add_9ea2d cJx4a65c_add_9ea2d 2 (some .boolean)) ({ frames := 6, cells := LC - H0.size, slots := LS - jTot H0, locals := 171 }) (va_Pc [.ref r0, .ref r1] (fun U => U.heap = H0 ∧ jX B base G0 [] H0 ∧ jG dC dI ca base U ∧ jK7 dC dI ca base U ∧ G0 r0 = some (1, 2) ∧ G0 r1 = some (10, 0) ∧ jP (dC, dI) G0 H0 [(r0, 1, 2, .int lz)] ∧ jIs (dC, dI) G0 H0 [(jFl, jLs dC dI ca G0 3 none wl)] ∧ H0.size + 1 ≤ LC ∧ jTot H0 + 40 ≤ LS ∧ 0 ≤ lz.toInt ∧ lz.toInt < 12)) (va_Qi (S := Int32 × jT) (fun r u => (r = 0 ∨ r = 1) ∧ (u.1.toInt = lz.toInt + 1)) (fun u t => jRa (dC, dI) B base G0 u.2 EJx4a65c_add_9ea2dL2 H0 (1) (40) [(r0, 1, 2, .int u.1)] t.heap ∧ (jNk [0, 1, 2, 3, 4, 5, 6, 7, 8, 9, 10, 11, 12, 13, 14, 15, 16, 17, 175]) G0 u.2 ∧ jIs (dC, dI) u.2 t.heap [(jFl, jLs dC dI ca u.2 3 none (wl.s2 (wl.2.2.1 ++ [r1])))]) (jA base)) (LC - H0.size) (LS - jTot H0) (jA base) := by
  refine Met.ofW (cc := cJx4a65c_add_9ea2d) (maxL := 2) (ret := (some .boolean)) (by decide) rfl ?_
  intro p e s m args below meth c s₁ Bd hml hv
  obtain ⟨rfl, hH0, hX, hG, hK7, hg_r0, hg_r1, hP0, hI0, hLC0, hLS0, hp0, hp1⟩ := hv
  have hK := hG.1
  have hx := Bd.exec
  have hb := Bd.bytes
  have hr := Bd.returns
  have hts := atoms_spec (ws := (jw yJx4a65c_add_9ea2d cJx4a65c_add_9ea2d 2 (some .boolean))) Bd.pre
  have htw : ∀ w ∈ jWl, w.before _ s = true := fun w h => hts w (List.mem_cons_of_mem _ h)
  have hown : s.vm.findClass RJx4a65c = some m.cls := findClass_of_methodNamed Bd.named
  have hlocks := Bd.notSynchronized
  obtain ⟨Q, hQ⟩ : ∃ Q, Q = MQ below (va_Qi (S := Int32 × jT) (fun r u => (r = 0 ∨ r = 1) ∧ (u.1.toInt = lz.toInt + 1)) (fun u t => jRa (dC, dI) B base G0 u.2 EJx4a65c_add_9ea2dL2 H0 (1) (40) [(r0, 1, 2, .int u.1)] t.heap ∧ (jNk [0, 1, 2, 3, 4, 5, 6, 7, 8, 9, 10, 11, 12, 13, 14, 15, 16, 17, 175]) G0 u.2 ∧ jIs (dC, dI) u.2 t.heap [(jFl, jLs dC dI ca u.2 3 none (wl.s2 (wl.2.2.1 ++ [r1])))]) (jA base)) ([.ref r0, .ref r1] : List Value).toArray s (LC - H0.size) (LS - jTot H0) (jA base) := ⟨_, rfl⟩
  rw [← hQ]
  have hl := lv_entry ([.ref r0, .ref r1]) (n := 2) (Nat.le_of_ble_eq_true rfl)
  rw [lg_entry_eq]
  generalize (lg_sl ([.ref r0, .ref r1]) ++ List.replicate (2 - (lg_sl ([.ref r0, .ref r1])).length) Slot.unset).toArray = ls at hl ⊢
  have hl : lv_has ls 2 [(0, .ref r0), (1, .ref r1)] := hl
  generalize hR : (headSpec (jw yJx4a65c_add_9ea2d cJx4a65c_add_9ea2d 2 (some .boolean)) ({ frames := 6, cells := LC - H0.size, slots := LS - jTot H0, locals := 171 })).room = R
  subst hH0
  have hh : jSt (dC, dI) B base G0 G0 EJx4a65c_add_9ea2dL2 s.heap 0 0 [(r0, 1, 2, .int lz)] [] [(jFl, jLs dC dI ca G0 3 none wl)] s.heap [] := jSt.start hX hP0 jMc.nil hI0
  clear hX hP0
  have hk0 : (0 : Int32).toInt = 0 := by decide
  have hk1 : (1 : Int32).toInt = 1 := by decide
  have hly_1_0 := htw (u_lay RJx4a65c TJx4a65c 0) (jWc_wsJx4a65c0 _ (u_in_lay (by decide)))
  have hly_1_1 := htw (u_lay RJx4a65c TJx4a65c 1) (jWc_wsJx4a65c0 _ (u_in_lay (by decide)))
  have hly_1_2 := htw (u_lay RJx4a65c TJx4a65c 2) (jWc_wsJx4a65c0 _ (u_in_lay (by decide)))
  have hlk_63 := (htw (.fieldLink RJx4a65c 63 "java/util/ArrayList" "modCount" "I") (jWr_33 _ (List.mem_of_getElem? (i := 11) rfl)))
  have hlk_9 := (htw (.fieldLink RJx4a65c 9 "java/util/ArrayList" "elementData" "[Ljava/lang/Object;") (jWr_9 _ (List.mem_of_getElem? (i := 15) rfl)))
  have hlk_48 := (htw (.fieldLink RJx4a65c 48 "java/util/ArrayList" "size" "I") (jWr_28 _ (List.mem_of_getElem? (i := 2) rfl)))
  have hbs : base ≤ s.heap.size := Nat.le_of_lt (Nat.lt_of_le_of_lt (hh.ab hg_r0).1 (hh.ab hg_r0).2)
  have hRc : R.cells = LC - s.heap.size := by rw [← hR]; rfl
  have hRs : R.slots = LS - jTot s.heap := by rw [← hR]; rfl
  refine lv_aload_n hx hb dJx4a65c_add_9ea2d_0 rfl (lv_at hl 0 rfl) ?_
  refine lv_dup hx hb dJx4a65c_add_9ea2d_1 rfl ?_
  obtain ⟨v_1, hv_1, hh_2⟩ := hh.pin (C := RJx4a65c) (T := TJx4a65c) (N := 3) hB1 rfl (by decide) hg_r0 (i := 0) (by decide) rfl
  clear hh
  obtain ⟨modCount_3, rfl⟩ := hv_1
  refine j7_readS hx hb hown hK (C := RJx4a65c) (T := TJx4a65c) (N := 3) rfl hly_1_0 hlk_63 (htw (.sameField "java/util/ArrayList" "java/util/AbstractList" "modCount" "I") (jWr_33 _ (List.mem_of_getElem? (i := 12) rfl))) (hh_2.at 0 rfl) dJx4a65c_add_9ea2d_2 ?_
  refine lv_iconst (v := 1) hx hb dJx4a65c_add_9ea2d_5 (by decide) ?_
  refine lv_iadd hx hb dJx4a65c_add_9ea2d_6 ?_
  refine lv_topi (fun z_4 ez_4 => ?_)
  refine j7_putS hx hb hown hK hh_2 hB hAp hB1 (C := RJx4a65c) (T := TJx4a65c) (N := 3) rfl (by decide) hg_r0 (i := 0) (by decide) hly_1_0 rfl hlk_63 (htw (.sameField "java/util/ArrayList" "java/util/AbstractList" "modCount" "I") (jWr_33 _ (List.mem_of_getElem? (i := 12) rfl))) rfl (ty := .int) (v := .int z_4) (by decide +kernel) rfl rfl (⟨_, rfl⟩) rfl (L1 := [(r0, 1, 2, .int lz)]) [1] rfl rfl rfl dJx4a65c_add_9ea2d_7 (fun H_5 locs_5 hr_5 hh_5 => ?_)
  clear hh_2
  clear hr_5
  obtain ⟨lz_6, lx_6, hl1_6, hl2_6, hl3_6, hl4_6⟩ := jLs.at (hh_5.iv 0 rfl) hg_r0
  obtain rfl : lz = lz_6 := Value.int.inj (jf.uniq (hh_5.at 1 rfl) hl1_6)
  have hl3_6 : 0 ≤ lz.toInt ∧ lz.toInt ≤ 12 := hl3_6
  rcases hl4_6 with ⟨rfl, hl5_6, hl0_6, hlE_6⟩ | ⟨lm_6, lf_6, hg_lx_6, hlm_6, hl6_6, hl7_6, hl8_6, hlw_6, hlY_6⟩
  · skip
    have hh_7 := hh_5.more (P1 := [(r0, 1, 1, .ref (dI 99 0))]) (jP.cons hg_r0 hl2_6 jP.nil)
    clear hh_5
    refine lv_aload_n hx hb dJx4a65c_add_9ea2d_10 rfl (lv_at hl 0 rfl) ?_
    refine lv_aload_n hx hb dJx4a65c_add_9ea2d_11 rfl (lv_at hl 1 rfl) ?_
    refine lv_aload_n hx hb dJx4a65c_add_9ea2d_12 rfl (lv_at hl 0 rfl) ?_
    refine j7_read hx hb hown hK (C := RJx4a65c) (T := TJx4a65c) (N := 3) rfl hly_1_1 hlk_9 (hh_7.at 0 rfl) dJx4a65c_add_9ea2d_13 ?_
    refine lv_aload_n hx hb dJx4a65c_add_9ea2d_16 rfl (lv_at hl 0 rfl) ?_
    refine j7_read hx hb hown hK (C := RJx4a65c) (T := TJx4a65c) (N := 3) rfl hly_1_2 hlk_48 (hh_7.at 2 rfl) dJx4a65c_add_9ea2d_17 ?_
    have hsz_8 := hh_7.2.2.2.2.2.1
    have htt_8 := hh_7.2.2.2.2.2.2.1
    refine W.room (fun hrc_8 hrs_8 => ?_)
    refine va_callv (A0 := jA base) (H0 := s.heap) (va_runV (As := [.ref r1, .ref (dI 99 0), .int lz]) (rest := []) ⟨hx, hb, hml, hown, hts⟩ (uJx4a65c_add_72be8E2 l dC dI ca base B hB hAp hB1 hB10 hB222 G0 H_5 r0 r1 lz lz wl LC LS) (cwV 3 hts (jgV (jWr_33 _ (List.mem_of_getElem? (i := 13) rfl)) (jWr_33 _ (List.mem_of_getElem? (i := 14) rfl)) (jWr_33 _ (List.mem_of_getElem? (i := 15) rfl)) (jWr_2 _ (List.mem_of_getElem? (i := 13) rfl)) (jWr_33 _ (List.mem_of_getElem? (i := 16) rfl))) rfl rfl rfl (by decide +kernel) ⟨by rw [← hR]; exact Nat.le_of_ble_eq_true rfl, by rw [← hR]; exact Nat.le_of_ble_eq_true rfl⟩) ⟨fun a U g mk q => by obtain ⟨q0, q1, q2, qK, q10, q11, q12, q13, q14, q15⟩ := q; exact ⟨q0, q1, q2, jG.calling g mk a qK, (jK7.calling g mk a q10), q11, q12, q13, q14, q15⟩, hh_7.recv (C := RJx4a65c) (T := TJx4a65c) (N := 3) hB1 rfl (by decide) hg_r0 hK, fun U hU hW => ⟨rfl, hU, hh_7.2.1, hG.step hW hU hh_7.1, (hK7.step hW hU hh_7.1), hg_r0, hg_r1, (hh_7.2.2.1.sub (L1 := [(r0, 1, 1, .ref (dI 99 0)), (r0, 1, 2, .int lz)]) [0, 2] rfl), (hh_7.2.2.2.2.2.2.2.2.sub (L1 := [(jFl, jLs dC dI ca G0 3 none wl)]) [0] rfl), by first | omega | (refine ⟨?_, ?_⟩ <;> (first | omega | rfl | assumption | decide | exact Or.inl rfl | exact Or.inr rfl | (simp only; omega)))⟩⟩ rfl rfl hl.1 rfl (lv_room (Nat.le_of_ble_eq_true rfl)) dJx4a65c_add_9ea2d_20 ⟨by rw [hRc]; omega, by rw [hRs]; omega⟩) hh_7.1 (fun q _ h => h) (fun q h => h) (fun u_8 t_8 H_8 locs_8 ht_8 hvm_8 hr_9 hb_8 hz_8 hk_8 hS_8 => ?_)
    obtain ⟨qz_8, G_8⟩ := u_8
    rw [ht_8] at hb_8
    simp only at hb_8
    obtain ⟨⟨hb_81, hb_82, hb_83, hb_84, hb_85, hb_86⟩, hN_8, hbE_8⟩ := hb_8
    have hh_8 : jSt (dC, dI) B base G0 G_8 EJx4a65c_add_9ea2dL2 s.heap (0 + (1)) (0 + (40)) [(r0, 1, 2, .int qz_8), (r0, 1, 0, .int z_4)] [] [] H_8 locs_8 := (hh_7.callG hb_81 hb_82 hb_83 hb_84 hb_85 hS_8 rfl (L1 := [(r0, 1, 0, .int z_4)]) [1] rfl rfl (M1 := []) [] rfl rfl (I1 := []) [] rfl rfl).more hb_86
    have hNn_8 : (jNk [0, 1, 2, 3, 4, 5, 6, 7, 8, 9, 10, 11, 12, 13, 14, 15, 16, 17, 175]) G0 G_8 := (jNk.rf).tr hN_8
    have hg_10 := hb_82 _ _ hg_r0
    have hg_11 := hb_82 _ _ hg_r1
    have hh_12 := hh_8.addIs hbE_8
    try simp only at hr_9
    refine lv_iconst (v := 1) hx hb dJx4a65c_add_9ea2d_23 (by decide) ?_
    have hsz_13 := hh_12.2.2.2.2.2.1
    have htt_13 := hh_12.2.2.2.2.2.2.1
    refine W.room (fun hrc_13 hrs_13 => ?_)
    refine W.widen (k := LC - s.heap.size) (n := LS - jTot s.heap) (by omega) (by omega) ?_
    rw [hQ]
    exact W.zret (v := 1) hx hb hr (jb_nz (Or.inr rfl)) (fun t ht hW => ⟨⟨1, (qz_8, G_8), rfl, ⟨(Or.inr rfl), by (try dsimp only); first | omega | rfl | assumption | fail⟩, ⟨hh_12.ra (by first | (simp only; omega) | omega) (by first | (simp only; omega) | omega) (M1 := [(r0, 1, 2, .int qz_8)]) [0] rfl ht, hNn_8, by rw [ht]; exact hh_12.2.2.2.2.2.2.2.2.sub (L1 := [(jFl, jLs dC dI ca G_8 3 none (wl.s2 (wl.2.2.1 ++ [r1])))]) [0] rfl⟩⟩, by rw [ht]; try exact hh_12.1.1, fun q h9 hq => by rw [ht]; try exact hh_12.1.2.1 q h9 hq⟩) hh_12.1.2.2 dJx4a65c_add_9ea2d_24
  · skip
    have hh_14 := hh_5.more (P1 := [(r0, 1, 1, .ref lx_6)]) (jP.cons hg_r0 hl2_6 jP.nil)
    clear hh_5
    have hh_15 := hh_14.addI (jQc.ie hl7_6 hg_lx_6 (by decide) (by decide))
    clear hh_14
    refine lv_aload_n hx hb dJx4a65c_add_9ea2d_10 rfl (lv_at hl 0 rfl) ?_
    refine lv_aload_n hx hb dJx4a65c_add_9ea2d_11 rfl (lv_at hl 1 rfl) ?_
    refine lv_aload_n hx hb dJx4a65c_add_9ea2d_12 rfl (lv_at hl 0 rfl) ?_
    refine j7_read hx hb hown hK (C := RJx4a65c) (T := TJx4a65c) (N := 3) rfl hly_1_1 hlk_9 (hh_15.at 0 rfl) dJx4a65c_add_9ea2d_13 ?_
    refine lv_aload_n hx hb dJx4a65c_add_9ea2d_16 rfl (lv_at hl 0 rfl) ?_
    refine j7_read hx hb hown hK (C := RJx4a65c) (T := TJx4a65c) (N := 3) rfl hly_1_2 hlk_48 (hh_15.at 2 rfl) dJx4a65c_add_9ea2d_17 ?_
    have hsz_16 := hh_15.2.2.2.2.2.1
    have htt_16 := hh_15.2.2.2.2.2.2.1
    refine W.room (fun hrc_16 hrs_16 => ?_)
    refine va_callv (A0 := jA base) (H0 := s.heap) (va_runV (As := [.ref r1, .ref lx_6, .int lz]) (rest := []) ⟨hx, hb, hml, hown, hts⟩ (uJx4a65c_add_72be8L2 l dC dI ca base B hB hAp hB1 hB10 hB222 G0 H_5 r0 r1 lx_6 lz lm_6 lz wl LC LS) (cwV 3 hts (jgV (jWr_33 _ (List.mem_of_getElem? (i := 13) rfl)) (jWr_33 _ (List.mem_of_getElem? (i := 14) rfl)) (jWr_33 _ (List.mem_of_getElem? (i := 15) rfl)) (jWr_2 _ (List.mem_of_getElem? (i := 13) rfl)) (jWr_33 _ (List.mem_of_getElem? (i := 16) rfl))) rfl rfl rfl (by decide +kernel) ⟨by rw [← hR]; exact Nat.le_of_ble_eq_true rfl, by rw [← hR]; exact Nat.le_of_ble_eq_true rfl⟩) ⟨fun a U g mk q => by obtain ⟨q0, q1, q2, qK, q10, q11, q12, q13, q14, q15, q16⟩ := q; exact ⟨q0, q1, q2, jG.calling g mk a qK, (jK7.calling g mk a q10), q11, q12, q13, q14, q15, q16⟩, hh_15.recv (C := RJx4a65c) (T := TJx4a65c) (N := 3) hB1 rfl (by decide) hg_r0 hK, fun U hU hW => ⟨rfl, hU, hh_15.2.1, hG.step hW hU hh_15.1, (hK7.step hW hU hh_15.1), hg_r0, hg_r1, hg_lx_6, (hh_15.2.2.1.sub (L1 := [(r0, 1, 1, .ref lx_6), (r0, 1, 2, .int lz)]) [0, 2] rfl), (hh_15.2.2.2.2.2.2.2.2.sub (L1 := [(jFl, jLs dC dI ca G0 3 none wl)]) [1] rfl), by first | omega | (refine ⟨?_, ?_, ?_, ?_⟩ <;> (first | omega | rfl | assumption | decide | exact Or.inl rfl | exact Or.inr rfl | (simp only; omega)))⟩⟩ rfl rfl hl.1 rfl (lv_room (Nat.le_of_ble_eq_true rfl)) dJx4a65c_add_9ea2d_20 ⟨by rw [hRc]; omega, by rw [hRs]; omega⟩) hh_15.1 (fun q _ h => h) (fun q h => h) (fun u_16 t_16 H_16 locs_16 ht_16 hvm_16 hr_17 hb_16 hz_16 hk_16 hS_16 => ?_)
    obtain ⟨qz_16, G_16⟩ := u_16
    rw [ht_16] at hb_16
    simp only at hb_16
    obtain ⟨⟨hb_161, hb_162, hb_163, hb_164, hb_165, hb_166⟩, hN_16, hbE_16⟩ := hb_16
    have hh_16 : jSt (dC, dI) B base G0 G_16 EJx4a65c_add_9ea2dL2 s.heap (0 + (1)) (0 + (40)) [(r0, 1, 2, .int qz_16), (r0, 1, 0, .int z_4)] [] [] H_16 locs_16 := (hh_15.callG hb_161 hb_162 hb_163 hb_164 hb_165 hS_16 rfl (L1 := [(r0, 1, 0, .int z_4)]) [1] rfl rfl (M1 := []) [] rfl rfl (I1 := []) [] rfl rfl).more hb_166
    have hNn_16 : (jNk [0, 1, 2, 3, 4, 5, 6, 7, 8, 9, 10, 11, 12, 13, 14, 15, 16, 17, 175]) G0 G_16 := (jNk.rf).tr hN_16
    have hg_18 := hb_162 _ _ hg_r0
    have hg_19 := hb_162 _ _ hg_r1
    have hh_20 := hh_16.addIs hbE_16
    try simp only at hr_17
    refine lv_iconst (v := 1) hx hb dJx4a65c_add_9ea2d_23 (by decide) ?_
    have hsz_21 := hh_20.2.2.2.2.2.1
    have htt_21 := hh_20.2.2.2.2.2.2.1
    refine W.room (fun hrc_21 hrs_21 => ?_)
    refine W.widen (k := LC - s.heap.size) (n := LS - jTot s.heap) (by omega) (by omega) ?_
    rw [hQ]
    exact W.zret (v := 1) hx hb hr (jb_nz (Or.inr rfl)) (fun t ht hW => ⟨⟨1, (qz_16, G_16), rfl, ⟨(Or.inr rfl), by (try dsimp only); first | omega | rfl | assumption | fail⟩, ⟨hh_20.ra (by first | (simp only; omega) | omega) (by first | (simp only; omega) | omega) (M1 := [(r0, 1, 2, .int qz_16)]) [0] rfl ht, hNn_16, by rw [ht]; exact hh_20.2.2.2.2.2.2.2.2.sub (L1 := [(jFl, jLs dC dI ca G_16 3 none (wl.s2 (wl.2.2.1 ++ [r1])))]) [0] rfl⟩⟩, by rw [ht]; try exact hh_20.1.1, fun q h9 hq => by rw [ht]; try exact hh_20.1.2.1 q h9 hq⟩) hh_20.1.2.2 dJx4a65c_add_9ea2d_24
end
section
theorem dX11_answerOrWait_0 : decode cX11_answerOrWait 0 = .ok (.iload_n 2, 1) := by decide +kernel
theorem dX11_answerOrWait_1 : decode cX11_answerOrWait 1 = .ok (.ifCond .ne 14, 3) := by decide +kernel
theorem dX11_answerOrWait_4 : decode cX11_answerOrWait 4 = .ok (.aload_n 0, 1) := by decide +kernel
theorem dX11_answerOrWait_5 : decode cX11_answerOrWait 5 = .ok (.aload_n 1, 1) := by decide +kernel
theorem dX11_answerOrWait_6 : decode cX11_answerOrWait 6 = .ok (.sipush (-32602), 3) := by decide +kernel
theorem dX11_answerOrWait_9 : decode cX11_answerOrWait 9 = .ok (.invokevirtual 267, 3) := by decide +kernel
theorem dX11_answerOrWait_12 : decode cX11_answerOrWait 12 = .ok (.goto 54, 3) := by decide +kernel
theorem dX11_answerOrWait_15 : decode cX11_answerOrWait 15 = .ok (.aload_n 1, 1) := by decide +kernel
theorem dX11_answerOrWait_16 : decode cX11_answerOrWait 16 = .ok (.invokevirtual 453, 3) := by decide +kernel
theorem dX11_answerOrWait_19 : decode cX11_answerOrWait 19 = .ok (.ifCond .eq 11, 3) := by decide +kernel
theorem dX11_answerOrWait_22 : decode cX11_answerOrWait 22 = .ok (.aload_n 0, 1) := by decide +kernel
theorem dX11_answerOrWait_23 : decode cX11_answerOrWait 23 = .ok (.aload_n 1, 1) := by decide +kernel
theorem dX11_answerOrWait_24 : decode cX11_answerOrWait 24 = .ok (.invokevirtual 456, 3) := by decide +kernel
theorem dX11_answerOrWait_27 : decode cX11_answerOrWait 27 = .ok (.goto 39, 3) := by decide +kernel
theorem dX11_answerOrWait_30 : decode cX11_answerOrWait 30 = .ok (.aload_n 0, 1) := by decide +kernel
theorem dX11_answerOrWait_31 : decode cX11_answerOrWait 31 = .ok (.getfield 65, 3) := by decide +kernel
theorem dX11_answerOrWait_34 : decode cX11_answerOrWait 34 = .ok (.invokeinterface 142 1, 5) := by decide +kernel
theorem dX11_answerOrWait_39 : decode cX11_answerOrWait 39 = .ok (.bipush 12, 2) := by decide +kernel
theorem dX11_answerOrWait_41 : decode cX11_answerOrWait 41 = .ok (.if_icmp .ge 17, 3) := by decide +kernel
theorem dX11_answerOrWait_44 : decode cX11_answerOrWait 44 = .ok (.aload_n 0, 1) := by decide +kernel
theorem dX11_answerOrWait_45 : decode cX11_answerOrWait 45 = .ok (.getfield 65, 3) := by decide +kernel
theorem dX11_answerOrWait_48 : decode cX11_answerOrWait 48 = .ok (.aload_n 1, 1) := by decide +kernel
theorem dX11_answerOrWait_49 : decode cX11_answerOrWait 49 = .ok (.invokeinterface 374 2, 5) := by decide +kernel
theorem dX11_answerOrWait_54 : decode cX11_answerOrWait 54 = .ok (.pop, 1) := by decide +kernel
theorem dX11_answerOrWait_55 : decode cX11_answerOrWait 55 = .ok (.goto 11, 3) := by decide +kernel
theorem dX11_answerOrWait_58 : decode cX11_answerOrWait 58 = .ok (.aload_n 0, 1) := by decide +kernel
theorem dX11_answerOrWait_59 : decode cX11_answerOrWait 59 = .ok (.aload_n 1, 1) := by decide +kernel
theorem dX11_answerOrWait_60 : decode cX11_answerOrWait 60 = .ok (.sipush (-32600), 3) := by decide +kernel
theorem dX11_answerOrWait_63 : decode cX11_answerOrWait 63 = .ok (.invokevirtual 267, 3) := by decide +kernel
theorem dX11_answerOrWait_66 : decode cX11_answerOrWait 66 = .ok (.return_, 1) := by decide +kernel
end
section
theorem dX11_aimAtPlace_0 : decode cX11_aimAtPlace 0 = .ok (.aload_n 0, 1) := by decide +kernel
theorem dX11_aimAtPlace_1 : decode cX11_aimAtPlace 1 = .ok (.invokevirtual 359, 3) := by decide +kernel
theorem dX11_aimAtPlace_4 : decode cX11_aimAtPlace 4 = .ok (.astore_n 2, 1) := by decide +kernel
theorem dX11_aimAtPlace_5 : decode cX11_aimAtPlace 5 = .ok (.aload_n 0, 1) := by decide +kernel
theorem dX11_aimAtPlace_6 : decode cX11_aimAtPlace 6 = .ok (.getfield 28, 3) := by decide +kernel
theorem dX11_aimAtPlace_9 : decode cX11_aimAtPlace 9 = .ok (.aload_n 0, 1) := by decide +kernel
theorem dX11_aimAtPlace_10 : decode cX11_aimAtPlace 10 = .ok (.getfield 28, 3) := by decide +kernel
theorem dX11_aimAtPlace_13 : decode cX11_aimAtPlace 13 = .ok (.iconst 0, 1) := by decide +kernel
theorem dX11_aimAtPlace_14 : decode cX11_aimAtPlace 14 = .ok (.ldc_w 271, 3) := by decide +kernel
theorem dX11_aimAtPlace_17 : decode cX11_aimAtPlace 17 = .ok (.invokevirtual 260, 3) := by decide +kernel
theorem dX11_aimAtPlace_20 : decode cX11_aimAtPlace 20 = .ok (.ldc_w 430, 3) := by decide +kernel
theorem dX11_aimAtPlace_23 : decode cX11_aimAtPlace 23 = .ok (.invokevirtual 260, 3) := by decide +kernel
theorem dX11_aimAtPlace_26 : decode cX11_aimAtPlace 26 = .ok (.istore_n 3, 1) := by decide +kernel
theorem dX11_aimAtPlace_27 : decode cX11_aimAtPlace 27 = .ok (.aload_n 2, 1) := by decide +kernel
theorem dX11_aimAtPlace_28 : decode cX11_aimAtPlace 28 = .ok (.ifnonnull 7, 3) := by decide +kernel
theorem dX11_aimAtPlace_31 : decode cX11_aimAtPlace 31 = .ok (.iconst (-1), 1) := by decide +kernel
theorem dX11_aimAtPlace_32 : decode cX11_aimAtPlace 32 = .ok (.goto 9, 3) := by decide +kernel
theorem dX11_aimAtPlace_35 : decode cX11_aimAtPlace 35 = .ok (.aload_n 0, 1) := by decide +kernel
theorem dX11_aimAtPlace_36 : decode cX11_aimAtPlace 36 = .ok (.iload_n 3, 1) := by decide +kernel
theorem dX11_aimAtPlace_37 : decode cX11_aimAtPlace 37 = .ok (.aload_n 2, 1) := by decide +kernel
theorem dX11_aimAtPlace_38 : decode cX11_aimAtPlace 38 = .ok (.invokevirtual 409, 3) := by decide +kernel
theorem dX11_aimAtPlace_41 : decode cX11_aimAtPlace 41 = .ok (.istore 4, 2) := by decide +kernel
theorem dX11_aimAtPlace_43 : decode cX11_aimAtPlace 43 = .ok (.iload 4, 2) := by decide +kernel
theorem dX11_aimAtPlace_45 : decode cX11_aimAtPlace 45 = .ok (.ifCond .ge 5, 3) := by decide +kernel
theorem dX11_aimAtPlace_48 : decode cX11_aimAtPlace 48 = .ok (.iconst 0, 1) := by decide +kernel
theorem dX11_aimAtPlace_49 : decode cX11_aimAtPlace 49 = .ok (.ireturn, 1) := by decide +kernel
theorem dX11_aimAtPlace_50 : decode cX11_aimAtPlace 50 = .ok (.aload_n 1, 1) := by decide +kernel
theorem dX11_aimAtPlace_51 : decode cX11_aimAtPlace 51 = .ok (.aload_n 2, 1) := by decide +kernel
theorem dX11_aimAtPlace_52 : decode cX11_aimAtPlace 52 = .ok (.putfield 432, 3) := by decide +kernel
theorem dX11_aimAtPlace_55 : decode cX11_aimAtPlace 55 = .ok (.aload_n 1, 1) := by decide +kernel
theorem dX11_aimAtPlace_56 : decode cX11_aimAtPlace 56 = .ok (.aload_n 2, 1) := by decide +kernel
theorem dX11_aimAtPlace_57 : decode cX11_aimAtPlace 57 = .ok (.iload 4, 2) := by decide +kernel
theorem dX11_aimAtPlace_59 : decode cX11_aimAtPlace 59 = .ok (.invokevirtual 435, 3) := by decide +kernel
theorem dX11_aimAtPlace_62 : decode cX11_aimAtPlace 62 = .ok (.putfield 438, 3) := by decide +kernel
theorem dX11_aimAtPlace_65 : decode cX11_aimAtPlace 65 = .ok (.iconst 1, 1) := by decide +kernel
theorem dX11_aimAtPlace_66 : decode cX11_aimAtPlace 66 = .ok (.ireturn, 1) := by decide +kernel
end
section
-- what reading JSON leaves: the strings and keys of the values stand apart among the units, and take bytes
theorem jDjn.sy {D : jC} {e e' : Nat} (h : jDjn D e e') : jDjn D e' e := by
  unfold jDjn at h ⊢
  omega
/-- the first and the size of a value that is no string are written -/
theorem jJr.fz {C D D' : jC} {pv pu qv qu h : Int} (g : jJr C pv pu D qv qu) (hp : pv ≤ h) (hk : jSo D.1 h ≠ 3) (ho : ∀ i : Int, 0 ≤ i → i < qv → i ≠ h → jE5 D D' i) (h1 : jSo D'.1 h = jSo D.1 h) (h2 : jSo D'.2.2.2.1 h = jSo D.2.2.2.1 h) (h3 : jSo D'.2.2.2.2 h = jSo D.2.2.2.2 h) : jJr C pv pu D' qv qu := by
  obtain ⟨g1, g2, g3, g4⟩ := g
  have kl : ∀ e : Nat, (e : Int) < 2 * qv → jln D' e = jln D e ∧ jlo D' e = jlo D e := fun e he => by
    by_cases q : ((e / 2 : Nat) : Int) = h
    · unfold jln jlo
      rw [q, h1, h3, h2]
      by_cases q2 : e % 2 = 0
      · rw [if_pos q2, if_pos q2, if_pos q2, if_pos q2, if_neg hk, if_neg hk, if_neg hk, if_neg hk]
        exact ⟨rfl, rfl⟩
      · rw [if_neg q2, if_neg q2, if_neg q2, if_neg q2]
        exact ⟨rfl, rfl⟩
    · have := ho _ (by omega) (by omega) q
      exact ⟨this.ln, this.lo⟩
  refine ⟨g1, fun i a b => ?_, fun e a b => ?_, fun e e' a b c d ne => ?_⟩
  · obtain ⟨x1, x2, x3, x4, x5⟩ := g2 i a b
    obtain ⟨y1, y2, y3, y4, y5⟩ := ho i a (by omega) (by omega)
    exact ⟨y1.trans x1, y2.trans x2, y3.trans x3, y4.trans x4, y5.trans x5⟩
  · have x := kl e b
    have y := g3 e a b
    omega
  · have x := kl e b
    have x' := kl e' d
    have y := g4 e e' a b c d ne
    unfold jDjn at y ⊢
    omega
/-- the key of a value that was read behind it -/
theorem jJr.key {C D E E' : jC} {pv pu wv wu u1 qv qu r : Int} (h : jJr C pv pu D wv wu) (hu : wu ≤ u1) (g : jJr D wv u1 E qv qu) (hr : wv ≤ r) (ho : ∀ i : Int, 0 ≤ i → i < qv → i ≠ r → jE5 E E' i) (h1 : jSo E'.1 r = jSo E.1 r) (h2 : jSo E'.2.1 r = jSo E.2.1 r) (h3 : jSo E'.2.2.1 r = jSo E.2.2.1 r) (h4 : jSo E'.2.2.2.1 r = wu) (h5 : jSo E'.2.2.2.2 r = u1 - wu) : jJr C pv pu E' qv qu := by
  have t := (h.up hu).tr g
  obtain ⟨t1, t2, t3, t4⟩ := t
  obtain ⟨a1, a2, a3, a4⟩ := h
  obtain ⟨b1, b2, b3, b4⟩ := g
  have kl : ∀ e : Nat, (e : Int) < 2 * qv → (e : Int) ≠ 2 * r + 1 → jln E' e = jln E e ∧ jlo E' e = jlo E e := fun e he hn => by
    by_cases q : ((e / 2 : Nat) : Int) = r
    · have q2 : e % 2 = 0 := by omega
      unfold jln jlo
      rw [q, h1, h2, h3, if_pos q2, if_pos q2, if_pos q2, if_pos q2]
      exact ⟨rfl, rfl⟩
    · have := ho _ (by omega) (by omega) q
      exact ⟨this.ln, this.lo⟩
  have kr : ∀ e : Nat, (e : Int) = 2 * r + 1 → jln E' e = u1 - wu ∧ jlo E' e = wu := fun e he => by
    unfold jln jlo
    rw [if_neg (by omega), if_neg (by omega), show ((e / 2 : Nat) : Int) = r by omega]
    exact ⟨h5, h4⟩
  have kd : ∀ e e' : Nat, (e : Int) = 2 * r + 1 → 2 * pv ≤ e' → (e' : Int) < 2 * qv → e ≠ e' → jDjn E' e e' := fun e e' he c d ne => by
    obtain ⟨x1, x2⟩ := kr e he
    obtain ⟨y1, y2⟩ := kl e' d (by omega)
    unfold jDjn
    by_cases q : (e' : Int) < 2 * wv
    · have z := b2 ((e' / 2 : Nat) : Int) (by omega) (by omega)
      have w := a3 e' c q
      rw [y1, y2, z.ln, z.lo]
      omega
    · have w := b3 e' (by omega) d
      omega
  refine ⟨t1, fun i a b => ?_, fun e a b => ?_, fun e e' a b c d ne => ?_⟩
  · obtain ⟨x1, x2, x3, x4, x5⟩ := t2 i a b
    obtain ⟨y1, y2, y3, y4, y5⟩ := ho i a (by omega) (by omega)
    exact ⟨y1.trans x1, y2.trans x2, y3.trans x3, y4.trans x4, y5.trans x5⟩
  · by_cases q : (e : Int) = 2 * r + 1
    · obtain ⟨x1, x2⟩ := kr e q
      omega
    · obtain ⟨x1, x2⟩ := kl e b q
      have := t3 e a b
      omega
  · by_cases q : (e : Int) = 2 * r + 1
    · exact kd e e' q c d ne
    · by_cases q' : (e' : Int) = 2 * r + 1
      · exact (kd e' e q' a b (fun x => ne x.symm)).sy
      · obtain ⟨x1, x2⟩ := kl e b q
        obtain ⟨y1, y2⟩ := kl e' d q'
        have := t4 e e' a b c d ne
        unfold jDjn at this ⊢
        omega
theorem jHs {C D E : jC} {k1 i1 z1 a1 s1 : Nat → Int32} {pv pu pt wv w0 u1 t2 l x qv qu qt r t : Int} (h1 : jJr C pv pu D wv w0) (h2 : jHv C pv pu pt D wv u1 t2 l x) (hu : w0 ≤ u1) (hx : x = 3 ∨ (x = 0 ∧ u1 = w0)) (g : jVr D wv u1 t2 E qv qu qt r) (hr : 0 ≤ r) (hl : 0 ≤ l) (hq : qv ≤ 1502)
    (hk : k1 = E.1) (ha : jSo a1 r = w0) (hao : ∀ j, j < 1502 → j ≠ r.toNat → a1 j = E.2.2.2.1 j) (hs : jSo s1 r = u1 - w0) (hso : ∀ j, j < 1502 → j ≠ r.toNat → s1 j = E.2.2.2.2 j)
    (hio : ∀ j, j < 1502 → j ≠ l.toNat → i1 j = E.2.1 j) (hzo : ∀ j, j < 1502 → j ≠ l.toNat → z1 j = E.2.2.1 j) (ht : qt + 1 ≤ t) : jJr C pv pu (k1, i1, z1, a1, s1) qv qu ∧ jHv C pv pu pt (k1, i1, z1, a1, s1) qv qu t l 0 := by
  obtain ⟨g1, g2⟩ := g
  rcases g2 with g2 | ⟨r1, r2, r3, r4⟩
  · omega
  rcases h2 with h2 | ⟨b1, b2, b3, b4, b5⟩
  · omega
  rw [b1] at hio hzo
  have p0 := h1.1
  have w1 := g1.1
  have k5 := g1.2.1 pv (by omega) b2
  have m1 : jJr C pv pu (E.1, E.2.1, E.2.2.1, a1, s1) qv qu := jJr.key h1 hu g1 r1 (fun i i0 i1 ne => ⟨rfl, rfl, rfl, jst hao i i0 (by omega) hr ne, jst hso i i0 (by omega) hr ne⟩) rfl rfl rfl ha hs
  have m2 : jJr C pv pu (k1, i1, z1, a1, s1) qv qu := jJr.fz (h := pv) m1 (Int.le_refl _) (by show jSo E.1 pv ≠ 3; rw [k5.1]; exact b3) (fun i i0 _ ne => ⟨by show jSo k1 i = jSo E.1 i; rw [hk], jst hio i i0 (by omega) (by omega) ne, jst hzo i i0 (by omega) (by omega) ne, rfl, rfl⟩) (by show jSo k1 pv = jSo E.1 pv; rw [hk]) rfl rfl
  refine ⟨m2, Or.inr ⟨b1, by omega, by show jSo k1 pv ≠ 3; rw [hk, k5.1]; exact b3, ?_, ?_⟩⟩
  · show jSo s1 pv = 0
    rw [jst hso pv (by omega) (by omega) hr (by omega), k5.2.2.2.2]
    exact b4
  · have s2 := jSb.put (f := E.2.2.2.2) (g := s1) r.toNat 1502 hso (by have := r3; unfold jSo at this; exact this) qv.toNat (by omega)
    have s3 : (s1 r.toNat).toInt = u1 - w0 := by have := hs; unfold jSo at this; exact this
    rw [s3] at s2
    show qu - pu + 0 + (jSb s1 qv.toNat - jSb C.2.2.2.2 pv.toNat) ≤ t - pt + 1
    rcases hx with hx | ⟨hx, hy⟩
    · by_cases q : 1 ≤ u1 - w0 ∧ r.toNat < qv.toNat
      · rw [if_pos q] at s2; omega
      · rw [if_neg q] at s2; omega
    · rw [if_neg (by omega : ¬ (1 ≤ u1 - w0 ∧ r.toNat < qv.toNat))] at s2
      omega
end
section
theorem dX11_aimAtName_0 : decode cX11_aimAtName 0 = .ok (.aload_n 0, 1) := by decide +kernel
theorem dX11_aimAtName_1 : decode cX11_aimAtName 1 = .ok (.invokevirtual 359, 3) := by decide +kernel
theorem dX11_aimAtName_4 : decode cX11_aimAtName 4 = .ok (.astore_n 2, 1) := by decide +kernel
theorem dX11_aimAtName_5 : decode cX11_aimAtName 5 = .ok (.aload_n 0, 1) := by decide +kernel
theorem dX11_aimAtName_6 : decode cX11_aimAtName 6 = .ok (.getfield 28, 3) := by decide +kernel
theorem dX11_aimAtName_9 : decode cX11_aimAtName 9 = .ok (.aload_n 0, 1) := by decide +kernel
theorem dX11_aimAtName_10 : decode cX11_aimAtName 10 = .ok (.getfield 28, 3) := by decide +kernel
theorem dX11_aimAtName_13 : decode cX11_aimAtName 13 = .ok (.iconst 0, 1) := by decide +kernel
theorem dX11_aimAtName_14 : decode cX11_aimAtName 14 = .ok (.ldc_w 271, 3) := by decide +kernel
theorem dX11_aimAtName_17 : decode cX11_aimAtName 17 = .ok (.invokevirtual 260, 3) := by decide +kernel
theorem dX11_aimAtName_20 : decode cX11_aimAtName 20 = .ok (.ldc_w 441, 3) := by decide +kernel
theorem dX11_aimAtName_23 : decode cX11_aimAtName 23 = .ok (.invokevirtual 260, 3) := by decide +kernel
theorem dX11_aimAtName_26 : decode cX11_aimAtName 26 = .ok (.istore_n 3, 1) := by decide +kernel
theorem dX11_aimAtName_27 : decode cX11_aimAtName 27 = .ok (.aload_n 2, 1) := by decide +kernel
theorem dX11_aimAtName_28 : decode cX11_aimAtName 28 = .ok (.ifnull 15, 3) := by decide +kernel
theorem dX11_aimAtName_31 : decode cX11_aimAtName 31 = .ok (.aload_n 0, 1) := by decide +kernel
theorem dX11_aimAtName_32 : decode cX11_aimAtName 32 = .ok (.getfield 28, 3) := by decide +kernel
theorem dX11_aimAtName_35 : decode cX11_aimAtName 35 = .ok (.iload_n 3, 1) := by decide +kernel
theorem dX11_aimAtName_36 : decode cX11_aimAtName 36 = .ok (.invokevirtual 283, 3) := by decide +kernel
theorem dX11_aimAtName_39 : decode cX11_aimAtName 39 = .ok (.iconst 3, 1) := by decide +kernel
theorem dX11_aimAtName_40 : decode cX11_aimAtName 40 = .ok (.if_icmp .eq 5, 3) := by decide +kernel
theorem dX11_aimAtName_43 : decode cX11_aimAtName 43 = .ok (.iconst 0, 1) := by decide +kernel
theorem dX11_aimAtName_44 : decode cX11_aimAtName 44 = .ok (.ireturn, 1) := by decide +kernel
theorem dX11_aimAtName_45 : decode cX11_aimAtName 45 = .ok (.aload_n 0, 1) := by decide +kernel
theorem dX11_aimAtName_46 : decode cX11_aimAtName 46 = .ok (.getfield 28, 3) := by decide +kernel
theorem dX11_aimAtName_49 : decode cX11_aimAtName 49 = .ok (.iload_n 3, 1) := by decide +kernel
theorem dX11_aimAtName_50 : decode cX11_aimAtName 50 = .ok (.invokevirtual 363, 3) := by decide +kernel
theorem dX11_aimAtName_53 : decode cX11_aimAtName 53 = .ok (.astore 4, 2) := by decide +kernel
theorem dX11_aimAtName_55 : decode cX11_aimAtName 55 = .ok (.aload_n 1, 1) := by decide +kernel
theorem dX11_aimAtName_56 : decode cX11_aimAtName 56 = .ok (.aload_n 2, 1) := by decide +kernel
theorem dX11_aimAtName_57 : decode cX11_aimAtName 57 = .ok (.putfield 432, 3) := by decide +kernel
theorem dX11_aimAtName_60 : decode cX11_aimAtName 60 = .ok (.aload_n 1, 1) := by decide +kernel
theorem dX11_aimAtName_61 : decode cX11_aimAtName 61 = .ok (.aload_n 2, 1) := by decide +kernel
theorem dX11_aimAtName_62 : decode cX11_aimAtName 62 = .ok (.getfield 168, 3) := by decide +kernel
theorem dX11_aimAtName_65 : decode cX11_aimAtName 65 = .ok (.putfield 438, 3) := by decide +kernel
theorem dX11_aimAtName_68 : decode cX11_aimAtName 68 = .ok (.aload_n 1, 1) := by decide +kernel
theorem dX11_aimAtName_69 : decode cX11_aimAtName 69 = .ok (.iconst 1, 1) := by decide +kernel
theorem dX11_aimAtName_70 : decode cX11_aimAtName 70 = .ok (.putfield 443, 3) := by decide +kernel
theorem dX11_aimAtName_73 : decode cX11_aimAtName 73 = .ok (.aload_n 1, 1) := by decide +kernel
theorem dX11_aimAtName_74 : decode cX11_aimAtName 74 = .ok (.aload_n 0, 1) := by decide +kernel
theorem dX11_aimAtName_75 : decode cX11_aimAtName 75 = .ok (.getfield 41, 3) := by decide +kernel
theorem dX11_aimAtName_78 : decode cX11_aimAtName 78 = .ok (.getfield 47, 3) := by decide +kernel
theorem dX11_aimAtName_81 : decode cX11_aimAtName 81 = .ok (.aload 4, 2) := by decide +kernel
theorem dX11_aimAtName_83 : decode cX11_aimAtName 83 = .ok (.iconst 0, 1) := by decide +kernel
theorem dX11_aimAtName_84 : decode cX11_aimAtName 84 = .ok (.aload 4, 2) := by decide +kernel
theorem dX11_aimAtName_86 : decode cX11_aimAtName 86 = .ok (.arraylength, 1) := by decide +kernel
theorem dX11_aimAtName_87 : decode cX11_aimAtName 87 = .ok (.iconst 0, 1) := by decide +kernel
theorem dX11_aimAtName_88 : decode cX11_aimAtName 88 = .ok (.invokevirtual 446, 3) := by decide +kernel
theorem dX11_aimAtName_91 : decode cX11_aimAtName 91 = .ok (.putfield 451, 3) := by decide +kernel
theorem dX11_aimAtName_94 : decode cX11_aimAtName 94 = .ok (.iconst 1, 1) := by decide +kernel
theorem dX11_aimAtName_95 : decode cX11_aimAtName 95 = .ok (.ireturn, 1) := by decide +kernel
end
section
-- p11: bits; the tape on both sides; bytes read as UTF-8; the text that comes of them
theorem jb_c0 : ∀ n : Nat, n < 256 → (((nI n) &&& 192).toInt = 128 ↔ (128 ≤ n ∧ n ≤ 191)) := by decide +kernel
theorem jb_a192 {x z : Int32} (e : z = x &&& 192) (h0 : 0 ≤ x.toInt) (h1 : x.toInt < 256) : (z.toInt = 128 ∧ 128 ≤ x.toInt ∧ x.toInt ≤ 191) ∨ (z.toInt ≠ 128 ∧ (x.toInt < 128 ∨ 191 < x.toInt)) := by
  obtain ⟨n, hn, ex, ex2⟩ := jN_of h0
  have h := jb_c0 n (by omega)
  rw [e, ex2]
  rw [← ex] at h
  by_cases q : 128 ≤ n ∧ n ≤ 191
  · exact Or.inl ⟨h.mpr q, by omega, by omega⟩
  · exact Or.inr ⟨fun w => q (h.mp w), by omega⟩
theorem jUc.ret {b : Int → Int} {i n r : Int} (h0 : 0 ≤ b i) (h : r = jUc b i n) : r = jUc b i n ∧ -1 ≤ r ∧ r ≤ 1114111 := by
  have h1 := jUc.r (n := n) h0
  exact ⟨h, by omega, by omega⟩
section JP1
variable {p : Program} {l : Launch} {e : Env} {R : Room} {s : State} {m : MethodId} {args : Array Value} {below : List Frame} {meth : Method} {c : Code} {H : Heap} {locs : List Loc} {cells slots : Nat} {Q : State → Prop}
variable {cc : ByteArray} {pc : Nat} {ls : Array Slot} {rest : List Value} {D : va_G} {cl : List vw_C} {A : Nat → Prop} {a : Nat} {tys : List (ClassId × FieldType)}
end JP1
section JP2
variable {p : Program} {l : Launch} {e : Env} {R : Room} {s : State} {m : MethodId} {args : Array Value} {below : List Frame} {meth : Method} {c : Code} {H : Heap} {locs : List Loc} {cells slots : Nat} {Q : State → Prop}
variable {cc : ByteArray} {pc : Nat} {ls : Array Slot} {rest : List Value} {dC : Nat → ClassId} {dI : Nat → Nat → Nat} {ca : Nat → ClassId} {B : jF} {base : Nat} {G0 G : jT} {E : List (Nat × Nat)} {H0 : Heap} {zc zs : Nat} {L : List jPin} {M : List jCt} {I : List jIv} {a k n : Nat} {cA : ClassId} {tys : List (ClassId × FieldType)}
end JP2
end
section
def EX0_decodedSizeP : List (Nat × Nat) := []
set_option maxHeartbeats 4000000 in
set_option maxRecDepth 20000 in
theorem uX0_decodedSizeP (l : Launch) (dC : Nat → ClassId) (dI : Nat → Nat → Nat) (ca : Nat → ClassId) (base : Nat) (B : jF) (hB : jBok B) (hAp : jAp (dC, dI)) (G0 : jT) (H0 : Heap) (a0 : Int32) : Met l yX0_decodedSize (jw yX0_decodedSize cX0_decodedSize 1 (some .int)) ({ frames := 0, cells := 0, slots := 0, locals := 0 }) (va_Pc [.int a0] (fun U => U.heap = H0 ∧ jX B base G0 [] H0 ∧ jG dC dI ca base U ∧ jP (dC, dI) G0 H0 [] ∧ True)) (va_Qi (S := Unit) (fun r u => (r.toInt = jUz a0.toInt ∧ 1 ≤ r.toInt ∧ r.toInt ≤ 4 ∧ (a0.toInt < 65536 ∨ r.toInt = 4))) (fun u t => jRt (dC, dI) B base G0 EX0_decodedSizeP H0 [] t.heap) (jA base)) 0 0 (jA base) := by
  refine Met.ofW (cc := cX0_decodedSize) (maxL := 1) (ret := (some .int)) (by decide) rfl ?_
  intro p e s m args below meth c s₁ Bd hml hv
  obtain ⟨rfl, hH0, hX, hG, hP0, hp0⟩ := hv
  have hK := hG.1
  have hx := Bd.exec
  have hb := Bd.bytes
  have hr := Bd.returns
  have hts := atoms_spec (ws := (jw yX0_decodedSize cX0_decodedSize 1 (some .int))) Bd.pre
  have htw : ∀ w ∈ jWl, w.before _ s = true := fun w h => hts w (List.mem_cons_of_mem _ h)
  have hown : s.vm.findClass RX0 = some m.cls := findClass_of_methodNamed Bd.named
  have hlocks := Bd.notSynchronized
  obtain ⟨Q, hQ⟩ : ∃ Q, Q = MQ below (va_Qi (S := Unit) (fun r u => (r.toInt = jUz a0.toInt ∧ 1 ≤ r.toInt ∧ r.toInt ≤ 4 ∧ (a0.toInt < 65536 ∨ r.toInt = 4))) (fun u t => jRt (dC, dI) B base G0 EX0_decodedSizeP H0 [] t.heap) (jA base)) ([.int a0] : List Value).toArray s 0 0 (jA base) := ⟨_, rfl⟩
  rw [← hQ]
  have hl := lv_entry ([.int a0]) (n := 1) (Nat.le_of_ble_eq_true rfl)
  rw [lg_entry_eq]
  generalize (lg_sl ([.int a0]) ++ List.replicate (1 - (lg_sl ([.int a0])).length) Slot.unset).toArray = ls at hl ⊢
  have hl : lv_has ls 1 [(0, .int a0)] := hl
  generalize hR : (headSpec (jw yX0_decodedSize cX0_decodedSize 1 (some .int)) ({ frames := 0, cells := 0, slots := 0, locals := 0 })).room = R
  subst hH0
  have hh : jSt (dC, dI) B base G0 G0 EX0_decodedSizeP s.heap 0 0 [] [] [] s.heap [] := jSt.start hX hP0 jMc.nil jIs.nil
  clear hX hP0
  have hk0 : (0 : Int32).toInt = 0 := by decide
  have hk1 : (1 : Int32).toInt = 1 := by decide
  have hk2 : (2 : Int32).toInt = 2 := by decide
  have hk3 : (3 : Int32).toInt = 3 := by decide
  have hk4 : (4 : Int32).toInt = 4 := by decide
  have hk128 : (128 : Int32).toInt = 128 := by decide
  have hk2048 : (2048 : Int32).toInt = 2048 := by decide
  have hk65536 : (65536 : Int32).toInt = 65536 := by decide
  have hcs_60 := htw (.constant RX0 60 65536) (jWr_20 _ (List.mem_of_getElem? (i := 15) rfl))
  have hrg_a0 := jb_rng a0
  refine lv_iload_n hx hb dX0_decodedSize_0 rfl (lv_at hl 0 rfl) ?_
  refine lv_sipush (v := 128) hx hb dX0_decodedSize_1 (by decide) ?_
  refine lv_icmp_ge (tgt := 11) hx hb dX0_decodedSize_4 (by decide) (fun c_1 => ?_) (fun c_1 => ?_)
  · skip
    have c_1' : a0.toInt ≥ 128 := jb_ge (rfl) ((by decide)) c_1
    refine lv_iload_n hx hb dX0_decodedSize_11 rfl (lv_at hl 0 rfl) ?_
    refine lv_sipush (v := 2048) hx hb dX0_decodedSize_12 (by decide) ?_
    refine lv_icmp_ge (tgt := 22) hx hb dX0_decodedSize_15 (by decide) (fun c_2 => ?_) (fun c_2 => ?_)
    · skip
      have c_2' : a0.toInt ≥ 2048 := jb_ge (rfl) ((by decide)) c_2
      refine lv_iload_n hx hb dX0_decodedSize_22 rfl (lv_at hl 0 rfl) ?_
      refine lv_ldc hx hb hown hcs_60 dX0_decodedSize_23 ?_
      refine lv_icmp_ge (tgt := 32) hx hb dX0_decodedSize_25 (by decide) (fun c_3 => ?_) (fun c_3 => ?_)
      · skip
        have c_3' : a0.toInt ≥ 65536 := jb_ge (rfl) ((by decide)) c_3
        refine lv_iconst (v := 4) hx hb dX0_decodedSize_32 (by decide) ?_
        rw [hQ]
        exact W.iret (v := 4) hx hb hr (fun t ht hW => ⟨⟨4, (), rfl, by refine ⟨?_, by omega, by omega, by omega⟩; unfold jUz; first | (rw [if_pos (by omega)]; rfl) | (rw [if_neg (by omega), if_pos (by omega)]; rfl) | (rw [if_neg (by omega), if_neg (by omega), if_pos (by omega)]; rfl) | (rw [if_neg (by omega), if_neg (by omega), if_neg (by omega)]; rfl), hh.rt (M1 := []) [] rfl ht⟩, by rw [ht]; try exact hh.1.1, fun q h9 hq => by rw [ht]; try exact hh.1.2.1 q h9 hq⟩) hh.1.2.2 dX0_decodedSize_33
      · skip
        have c_3' : a0.toInt < 65536 := jb_ge_n (rfl) ((by decide)) c_3
        refine lv_iconst (v := 3) hx hb dX0_decodedSize_28 (by decide) ?_
        refine lv_goto (tgt := 33) hx hb dX0_decodedSize_29 (by decide) ?_
        rw [hQ]
        exact W.iret (v := 3) hx hb hr (fun t ht hW => ⟨⟨3, (), rfl, by refine ⟨?_, by omega, by omega, by omega⟩; unfold jUz; first | (rw [if_pos (by omega)]; rfl) | (rw [if_neg (by omega), if_pos (by omega)]; rfl) | (rw [if_neg (by omega), if_neg (by omega), if_pos (by omega)]; rfl) | (rw [if_neg (by omega), if_neg (by omega), if_neg (by omega)]; rfl), hh.rt (M1 := []) [] rfl ht⟩, by rw [ht]; try exact hh.1.1, fun q h9 hq => by rw [ht]; try exact hh.1.2.1 q h9 hq⟩) hh.1.2.2 dX0_decodedSize_33
    · skip
      have c_2' : a0.toInt < 2048 := jb_ge_n (rfl) ((by decide)) c_2
      refine lv_iconst (v := 2) hx hb dX0_decodedSize_18 (by decide) ?_
      refine lv_goto (tgt := 33) hx hb dX0_decodedSize_19 (by decide) ?_
      rw [hQ]
      exact W.iret (v := 2) hx hb hr (fun t ht hW => ⟨⟨2, (), rfl, by refine ⟨?_, by omega, by omega, by omega⟩; unfold jUz; first | (rw [if_pos (by omega)]; rfl) | (rw [if_neg (by omega), if_pos (by omega)]; rfl) | (rw [if_neg (by omega), if_neg (by omega), if_pos (by omega)]; rfl) | (rw [if_neg (by omega), if_neg (by omega), if_neg (by omega)]; rfl), hh.rt (M1 := []) [] rfl ht⟩, by rw [ht]; try exact hh.1.1, fun q h9 hq => by rw [ht]; try exact hh.1.2.1 q h9 hq⟩) hh.1.2.2 dX0_decodedSize_33
  · skip
    have c_1' : a0.toInt < 128 := jb_ge_n (rfl) ((by decide)) c_1
    refine lv_iconst (v := 1) hx hb dX0_decodedSize_7 (by decide) ?_
    refine lv_goto (tgt := 33) hx hb dX0_decodedSize_8 (by decide) ?_
    rw [hQ]
    exact W.iret (v := 1) hx hb hr (fun t ht hW => ⟨⟨1, (), rfl, by refine ⟨?_, by omega, by omega, by omega⟩; unfold jUz; first | (rw [if_pos (by omega)]; rfl) | (rw [if_neg (by omega), if_pos (by omega)]; rfl) | (rw [if_neg (by omega), if_neg (by omega), if_pos (by omega)]; rfl) | (rw [if_neg (by omega), if_neg (by omega), if_neg (by omega)]; rfl), hh.rt (M1 := []) [] rfl ht⟩, by rw [ht]; try exact hh.1.1, fun q h9 hq => by rw [ht]; try exact hh.1.2.1 q h9 hq⟩) hh.1.2.2 dX0_decodedSize_33
end
section
-- p9: frames: X 0 fine or broken, 1 place, 2 told, 3 kept, 4 signs, 5 the name is like the wanted one, 6 digits, 7 value, 8 filled
section
variable {x a b c d e f g h i u r p q ql qg : Int}
theorem jfIn_c (hc : u = 58) (hq : (f = 1 ∧ e = 14 ∧ p = 3) ∨ ((f ≠ 1 ∨ e ≠ 14) ∧ p = 2)) (hr : r = 1) {qd qv : Int} (hd : qd = 0) (hv : qv = 0) : jfIn (jfV x b c d e f g h i) u = jfV r p c d e f qd qv i := by
  unfold jfIn
  rw [if_pos hc, hr, hd, hv]
  show jfV 1 (if f = 1 ∧ e = 14 then 3 else 2) c d e f 0 0 i = _
  rcases hq with ⟨h1, h2, h3⟩ | ⟨h1, h2⟩
  · rw [if_pos ⟨h1, h2⟩, h3]
  · rw [if_neg (by omega), h2]
theorem jfIn_n {s : Int} (hc : u ≠ 58) (hs : s = jfSm u) (hl : (f = 1 ∧ e < 14 ∧ jfC e = s ∧ ql = 1) ∨ ((f ≠ 1 ∨ 14 ≤ e ∨ jfC e ≠ s) ∧ ql = 0)) (hg : qg = e + 1) (hr : ((s = 45 ∨ (97 ≤ s ∧ s ≤ 122)) ∧ r = 1) ∨ (s ≠ 45 ∧ (s < 97 ∨ 122 < s) ∧ r = 0)) : jfIn (jfV x b c d e f g h i) u = jfV r b c d qg ql g h i := by
  unfold jfIn
  rw [if_neg hc, ← hs, hg]
  show jfV (jfOk s) b c d (e + 1) (jfLn f e s) g h i = _
  have h1 : jfOk s = r := by
    unfold jfOk
    rcases hr with ⟨h2, h3⟩ | ⟨h2, h3, h4⟩
    · rw [if_pos h2, h3]
    · rw [if_neg (by omega), h4]
  have h2 : jfLn f e s = ql := by
    unfold jfLn
    rcases hl with ⟨h3, h4, h5, h6⟩ | ⟨h3, h4⟩
    · rw [if_pos ⟨h3, h4, h5⟩, h6]
    · rw [if_neg (by rintro ⟨q1, q2, q3⟩; rcases h3 with h3 | h3 | h3; exact h3 q1; omega; exact h3 q3), h4]
  rw [h1, h2]
theorem jfLb_r (hu : u = 13) (hp : p = 5) (hr : (0 ≤ c ∧ r = 1) ∨ (c < 0 ∧ r = 0)) : jfLb (jfV x b c d e f g h i) u = jfV r p c d e f g h i := by
  unfold jfLb
  rw [if_pos hu, hp]
  show jfV (if 0 ≤ c then 1 else 0) 5 c d e f g h i = _
  rcases hr with ⟨h1, h2⟩ | ⟨h1, h2⟩
  · rw [if_pos h1, h2]
  · rw [if_neg (by omega), h2]
theorem jfLb_c (hu : u = 58) (hp : p = 1) (hg : qg = 0) (hl : ql = 1) (hr : r = 0) : jfLb (jfV x b c d e f g h i) u = jfV r p c d qg ql g h i := by
  unfold jfLb
  rw [if_neg (by omega), if_pos hu, hr, hp, hg, hl]
  rfl
theorem jfLb_n {Y : Nat → Int} (hu : u ≠ 13) (h58 : u ≠ 58) (hp : p = 1) (hg : qg = 0) (hl : ql = 1) (hy : jfIn (jfV 1 p c d qg ql g h i) u = Y) : jfLb (jfV x b c d e f g h i) u = Y := by
  rw [hp, hg, hl] at hy
  unfold jfLb
  rw [if_neg hu, if_neg h58]
  exact hy
theorem jfIv_r (hu : u = 13) (hp : p = 4) (hr : r = 1) : jfIv (jfV x b c d e f g h i) u = jfV r p c d e f g h i := by
  unfold jfIv
  rw [if_pos hu, hr, hp]
  rfl
theorem jfIv_n (hu : u ≠ 13) (hr : (32 ≤ u ∧ u ≤ 126 ∧ r = 1) ∨ ((u < 32 ∨ 126 < u) ∧ r = 0)) : jfIv (jfV x b c d e f g h i) u = jfV r b c d e f g h i := by
  unfold jfIv
  rw [if_neg hu]
  show jfV (if 32 ≤ u ∧ u ≤ 126 then 1 else 0) b c d e f g h i = _
  rcases hr with ⟨h1, h2, h3⟩ | ⟨h1, h2⟩
  · rw [if_pos ⟨h1, h2⟩, h3]
  · rw [if_neg (by omega), h2]
theorem jfIl_r (hu : u = 13) (hp : p = 4) (hq : q = h) (hr : (0 < g ∧ r = 1) ∨ (g ≤ 0 ∧ r = 0)) : jfIl (jfV x b c d e f g h i) u = jfV r p q d e f g h i := by
  unfold jfIl
  rw [if_pos hu, hp, hq]
  show jfV (if 0 < g then 1 else 0) 4 h d e f g h i = _
  rcases hr with ⟨h1, h2⟩ | ⟨h1, h2⟩
  · rw [if_pos h1, h2]
  · rw [if_neg (by omega), h2]
theorem jfIl_b (hu : u ≠ 13) (h4 : u < 48 ∨ 57 < u) (hr : (u = 32 ∧ g = 0 ∧ r = 1) ∨ ((u ≠ 32 ∨ g ≠ 0) ∧ r = 0)) : jfIl (jfV x b c d e f g h i) u = jfV r b c d e f g h i := by
  unfold jfIl
  rw [if_neg hu, if_pos h4]
  show jfV (if u = 32 ∧ g = 0 then 1 else 0) b c d e f g h i = _
  rcases hr with ⟨h1, h2, h3⟩ | ⟨h1, h2⟩
  · rw [if_pos ⟨h1, h2⟩, h3]
  · rw [if_neg (by omega), h2]
theorem jfIl_d (h0 : 48 ≤ u) (h9 : u ≤ 57) (hp : p = g + 1) (hq : q = h * 10 + u - 48) (hr : (p ≤ 4 ∧ q ≤ 3000 ∧ r = 1) ∨ ((4 < p ∨ 3000 < q) ∧ r = 0)) : jfIl (jfV x b c d e f g h i) u = jfV r b c d e f p q i := by
  unfold jfIl
  rw [if_neg (by omega), if_neg (by omega)]
  show jfV (if g + 1 ≤ 4 ∧ h * 10 + u - 48 ≤ 3000 then 1 else 0) b c d e f (g + 1) (h * 10 + u - 48) i = _
  rw [← hp, ← hq]
  rcases hr with ⟨h1, h2, h3⟩ | ⟨h1, h2⟩
  · rw [if_pos ⟨h1, h2⟩, h3]
  · rw [if_neg (by omega), h2]
theorem jfHd_0 {Y : Nat → Int} (hb : b = 0) (hy : jfLb (jfV x b c d e f g h i) u = Y) : jfHd (jfV x b c d e f g h i) u = Y := by unfold jfHd; rw [if_pos (show jfV x b c d e f g h i 1 = 0 from hb)]; exact hy
theorem jfHd_1 {Y : Nat → Int} (hb : b = 1) (hy : jfIn (jfV x b c d e f g h i) u = Y) : jfHd (jfV x b c d e f g h i) u = Y := by unfold jfHd; rw [if_neg (show ¬ jfV x b c d e f g h i 1 = 0 from fun w => by have w : b = 0 := w; omega), if_pos (show jfV x b c d e f g h i 1 = 1 from hb)]; exact hy
theorem jfHd_2 {Y : Nat → Int} (hb : b = 2) (hy : jfIv (jfV x b c d e f g h i) u = Y) : jfHd (jfV x b c d e f g h i) u = Y := by unfold jfHd; rw [if_neg (show ¬ jfV x b c d e f g h i 1 = 0 from fun w => by have w : b = 0 := w; omega), if_neg (show ¬ jfV x b c d e f g h i 1 = 1 from fun w => by have w : b = 1 := w; omega), if_pos (show jfV x b c d e f g h i 1 = 2 from hb)]; exact hy
theorem jfHd_3 {Y : Nat → Int} (hb : b = 3) (hy : jfIl (jfV x b c d e f g h i) u = Y) : jfHd (jfV x b c d e f g h i) u = Y := by unfold jfHd; rw [if_neg (show ¬ jfV x b c d e f g h i 1 = 0 from fun w => by have w : b = 0 := w; omega), if_neg (show ¬ jfV x b c d e f g h i 1 = 1 from fun w => by have w : b = 1 := w; omega), if_neg (show ¬ jfV x b c d e f g h i 1 = 2 from fun w => by have w : b = 2 := w; omega), if_pos (show jfV x b c d e f g h i 1 = 3 from hb)]; exact hy
theorem jfHd_4 (hb : (b = 4 ∧ p = 0) ∨ (b = 5 ∧ p = 6)) (hr : (u = 10 ∧ r = 1) ∨ (u ≠ 10 ∧ r = 0)) : jfHd (jfV x b c d e f g h i) u = jfV r p c d e f g h i := by
  have e1 : ∀ k : Int, k < 4 → ¬ jfV x b c d e f g h i 1 = k := fun k hk w => by have w : b = k := w; omega
  unfold jfHd
  rw [if_neg (e1 0 (by omega)), if_neg (e1 1 (by omega)), if_neg (e1 2 (by omega)), if_neg (e1 3 (by omega))]
  show jfV (if u = 10 then 1 else 0) (if b = 4 then 0 else 6) c d e f g h i = _
  have h1 : (if u = 10 then (1 : Int) else 0) = r := by
    rcases hr with ⟨h1, h2⟩ | ⟨h1, h2⟩
    · rw [if_pos h1, h2]
    · rw [if_neg h1, h2]
  have h2 : (if b = 4 then (0 : Int) else 6) = p := by
    rcases hb with ⟨h1, h2⟩ | ⟨h1, h2⟩
    · rw [if_pos h1, h2]
    · rw [if_neg (by omega), h2]
  rw [h1, h2]
theorem jfA.xo {qn qb a1 a2 a3 a4 a5 a6 a7 a8 : Int} (hb : b ≠ 6) (hx : 200 ≤ d ∨ ∃ (p q t ql qg s k : Int), jfHd (jfV x b c d e f g h i) u = jfV 0 p q t ql qg s k i) (hr : r = 0) (hq : qb = 1) : jfA (jfV x b c d e f g h i) u r qn qb a1 a2 a3 a4 a5 a6 a7 a8 := by
  refine ⟨jfB, 0, ?_, Or.inl ⟨hq, rfl⟩, fun w => by omega⟩
  unfold jfAc
  rw [if_neg (show ¬ jfV x b c d e f g h i 1 = 6 from hb), if_pos, hr]
  rcases hx with hx | ⟨p, q, t, ql, qg, s, k, hx⟩
  · exact Or.inl hx
  · exact Or.inr (by rw [hx]; rfl)
theorem jfA.by {qn qb a1 a2 a3 a4 : Int} (hb : b = 6) (hw : c ≤ i + 1) (hr : r = 1) (hq : qb = 0) (hn : qn = c) (h1 : a1 = 0) (h2 : a2 = -1) (h3 : a3 = 0) (h4 : a4 = 0) : jfA (jfV x b c d e f g h i) u r qn qb a1 a2 a3 e f g h a4 := by
  refine ⟨jfV 0 0 (-1) 0 e f g h 0, c, ?_, Or.inr ⟨hq, by rw [h1, h2, h3, h4]⟩, fun w => hn⟩
  unfold jfAc
  rw [if_pos (show jfV x b c d e f g h i 1 = 6 from hb)]
  show jfW (jfV 0 6 c (d + 1) e f g h (i + 1)) = _
  rw [jfW_y rfl hw, hr]
theorem jNr (x : Int32) : -128 ≤ (vp_nar .byte x).toInt ∧ (vp_nar .byte x).toInt ≤ 127 := by
  rw [vp_nar_byte, Int8.toInt_toInt32, Int32.toInt_toInt8]
  show -128 ≤ Int.bmod x.toInt 256 ∧ Int.bmod x.toInt 256 ≤ 127
  unfold Int.bmod
  dsimp only
  split <;> omega
end
section JP3
variable {p : Program} {l : Launch} {e : Env} {R : Room} {s : State} {m : MethodId} {args : Array Value} {below : List Frame} {meth : Method} {c : Code} {H : Heap} {locs : List Loc} {cells slots : Nat} {Q : State → Prop}
variable {cc : ByteArray} {pc : Nat} {ls : Array Slot} {rest : List Value} {dC : Nat → ClassId} {dI : Nat → Nat → Nat} {ca : Nat → ClassId} {B : jF} {base : Nat} {G0 G : jT} {E : List (Nat × Nat)} {H0 : Heap} {zc zs : Nat} {L : List jPin} {M : List jCt} {I : List jIv} {a k n : Nat} {cA : ClassId} {tys : List (ClassId × FieldType)}
theorem j7_bastW (hexec : p.tables.exec = Jvm.exec) (hb : c.code = cc) (hK : va_K (dC, dI) vwCl tys s) (hh : jSt (dC, dI) B base G0 G E H0 zc zs L M I H locs) (hB : jBok B) (hBk : ∀ n G a H, B k n G a H ↔ jAr (dC, dI) cA (fun _ _ => True) n a H) (t0 : Nat) (ht : tys[t0]? = some (cA, .byte)) (hk : k < 1000) (hk2 : 18 ≤ k) (hE : E.contains (k, 0) = true) (oj : Nat) {kk1 : Nat} {cB : ClassId} {f : Nat → Int32} (hj : M[oj]? = some (a, kk1, n, cB, f)) {M1 : List jCt} (js : List Nat) (hjs : js.map (fun i => M[i]?) = M1.map some) (hM : M1.all (fun q => !(q.2.1 == k)) = true) (hI : I.all (fun q => !(q.1.contains (k, 0))) = true) (ha : G a = some (k, n)) {i v : Int32} {x : Int} (hi : i.toInt = x) (h12 : 0 ≤ x ∧ x < n) (hdg : decode cc pc = .ok (.bastore, 1))
    (kk : ∀ (H1 : Heap) (locs1 : List Loc) (g : Nat → Int32), g x.toNat = vp_nar .byte v → (∀ j, j < n → j ≠ x.toNat → g j = f j) → jSt (dC, dI) B base G0 G E H0 zc zs L ((a, k, n, cA, g) :: M1) I H1 locs1 → W p l e R s m args below meth c H1 locs1 cells slots Q (F0 m (pc + 1) ls rest)) : W p l e R s m args below meth c H locs cells slots Q (F0 m pc ls (.int v :: .int i :: .ref a :: rest)) := by
  obtain ⟨h1, h2⟩ := h12
  obtain ⟨f', g1, g2⟩ := hh.ar hBk hk ha
  obtain ⟨-, -, -, q4⟩ := hh.2.2.2.2.2.2.2.1 _ (List.mem_of_getElem? hj)
  have hh1 : jSt (dC, dI) B base G0 G E H0 zc zs L M1 I H locs := by
    obtain ⟨e1, e2, e3, e4, e5, e6, e7, e8, e9⟩ := hh
    exact ⟨e1, e2, e3, e4, e5, e6, e7, e8.sub js hjs, e9⟩
  refine j_bastV (A := jA base) hexec hb hK t0 g1 (hh.ab ha).1 hh.1.2.2 ht (jb_in hi h1 h2) hdg (fun H1 locs1 hat hsz hfr hT hL => ?_)
  have h9 := hh1.arr hB ha hk hk2 hE hM hI hsz hfr hT hL ((hBk _ _ _ _).mpr ⟨_, hat, fun j _ => trivial⟩)
  refine kk H1 locs1 (upd f' i.toNatClampNeg (vp_nar .byte v)) (by rw [← jb_cl hi h1]; simp [upd]) (fun j hj' hne => ?_) ?_
  · have : j ≠ i.toNatClampNeg := by rw [jb_cl hi h1]; exact hne
    simp only [upd, if_neg this]
    exact (jCt_eq q4 g1 hj').symm
  · obtain ⟨e1, e2, e3, e4, e5, e6, e7, e8, e9⟩ := h9
    refine ⟨e1, e2, e3, e4, e5, e6, e7, fun q hq => ?_, e9⟩
    rcases List.mem_cons.mp hq with e | e
    · subst e; exact ⟨ha, hk2, hk, hat⟩
    · exact e8 q e
end JP3
theorem jfr1 {X : Nat → Int} {r a b c d e f g h : Int} (q : X = jfV r a b c d e f g h) (hr : r = 1) : X = jfV 1 a b c d e f g h := by rw [q, hr]
theorem jfrx {X : Nat → Int} {r r1 a b c d e f g h : Int} (q : X = jfV r a b c d e f g h) (hr : r = r1) : X = jfV r1 a b c d e f g h := by rw [q, hr]
theorem jfr0 {X : Nat → Int} {r a b c d e f g h : Int} (q : X = jfV r a b c d e f g h) (hr : r = 0) : X = jfV 0 a b c d e f g h := by rw [q, hr]
section JP4
variable {p : Program} {l : Launch} {e : Env} {R : Room} {s : State} {m : MethodId} {args : Array Value} {below : List Frame} {meth : Method} {c : Code} {H : Heap} {locs : List Loc} {cells slots : Nat} {Q : State → Prop}
variable {cc : ByteArray} {pc : Nat} {ls : Array Slot} {rest : List Value} {dC : Nat → ClassId} {dI : Nat → Nat → Nat} {ca : Nat → ClassId} {B : jF} {base : Nat} {G0 G : jT} {E : List (Nat × Nat)} {H0 : Heap} {zc zs : Nat} {L : List jPin} {M : List jCt} {I : List jIv} {a k n : Nat} {cA : ClassId} {tys : List (ClassId × FieldType)}
variable {P : Nat → Int32 → Prop}
end JP4
end
