section
def EJ7_copyOf_6403cL2 : List (Nat × Nat) := []
def EJ7_copyOf_1904cL2 : List (Nat × Nat) := []
def EJx4a65c_grow_92f84E2 : List (Nat × Nat) := [(1, 1)]
def EJx4a65c_grow_92f84L2 : List (Nat × Nat) := [(1, 1)]
def EJx4a65c_grow_d5877E2 : List (Nat × Nat) := [(1, 1)]
def EJx4a65c_grow_d5877L2 : List (Nat × Nat) := [(1, 1)]
def EJx4a65c_add_72be8E2 : List (Nat × Nat) := [(1, 1), (1, 2), (222, 0)]
def EJx4a65c_add_72be8L2 : List (Nat × Nat) := [(1, 1), (1, 2), (222, 0)]
def EJx4a65c_add_9ea2dL2 : List (Nat × Nat) := [(1, 0), (1, 1), (1, 2), (222, 0)]
set_option maxHeartbeats 4000000 in
set_option maxRecDepth 20000 in
theorem uJ7_copyOf_6403cL2 (l : Launch) (dC : Nat → ClassId) (dI : Nat → Nat → Nat) (ca : Nat → ClassId) (base : Nat) (B : jF) (hB : jBok B) (hAp : jAp (dC, dI)) (hB10 : ∀ n G a H, B 10 n G a H ↔ jOb (dC, dI) 10 5 (F10 n G) a H) (hB222 : ∀ n G a H, B 222 n G a H ↔ jAq (dC, dI) (ca 9) (jQn 10 0) n G a H) (G0 : jT) (H0 : Heap) (r0 : Nat) (a1 : Int32) (n0 : Nat) (fq : Nat → Option Nat) (LC LS : Nat) : Met l yJ7_copyOf_6403c (jw yJ7_copyOf_6403c cJ7_copyOf_6403c 4 (some (.array (.object "java/lang/Object")))) ({ frames := 1, cells := LC - H0.size, slots := LS - jTot H0, locals := 61 }) (va_Pc [.ref r0, .int a1, .ref (dI 99 1)] (fun U => U.heap = H0 ∧ jX B base G0 [] H0 ∧ jG dC dI ca base U ∧ jK7 dC dI ca base U ∧ G0 r0 = some (222, n0) ∧ jP (dC, dI) G0 H0 [] ∧ jIs (dC, dI) G0 H0 [([(222, 0)], jQc dC dI (ca 9) r0 n0 fq)] ∧ H0.size + 1 ≤ LC ∧ jTot H0 + a1.toInt.toNat ≤ LS ∧ n0 ≤ 40 ∧ n0 ≤ a1.toInt ∧ a1.toInt ≤ 40)) (jQx (S := Nat × Nat × jT) (fun v u => v = .ref u.1 ∧ jRf u.2.2 222 u.2.1 v ∧ jNwv v H0 ∧ u.2.1 = a1.toInt) (fun u t => jRa (dC, dI) B base G0 u.2.2 EJ7_copyOf_6403cL2 H0 (1) (u.2.1) [] t.heap ∧ (jNk [0, 1, 2, 3, 4, 5, 6, 7, 8, 9, 10, 11, 12, 13, 14, 15, 16]) G0 u.2.2 ∧ (∃ f : Nat → Option Nat, jQc dC dI (ca 9) u.1 u.2.1 f t.heap ∧ (∀ j, j < n0 → f j = fq j)) ∧ jKe G0 u.2.2 H0 t.heap) (jA base)) (LC - H0.size) (LS - jTot H0) (jA base) := by
  refine Met.ofW (cc := cJ7_copyOf_6403c) (maxL := 4) (ret := (some (.array (.object "java/lang/Object")))) (by decide) rfl ?_
  intro p e s m args below meth c s₁ Bd hml hv
  obtain ⟨rfl, hH0, hX, hG, hK7, hg_r0, hP0, hI0, hLC0, hLS0, hp0, hp1, hp2⟩ := hv
  have hK := hG.1
  have hx := Bd.exec
  have hb := Bd.bytes
  have hr := Bd.returns
  have hts := atoms_spec (ws := (jw yJ7_copyOf_6403c cJ7_copyOf_6403c 4 (some (.array (.object "java/lang/Object"))))) Bd.pre
  have htw : ∀ w ∈ jWl, w.before _ s = true := fun w h => hts w (List.mem_cons_of_mem _ h)
  have hown : s.vm.findClass RJ7 = some m.cls := findClass_of_methodNamed Bd.named
  have hlocks := Bd.notSynchronized
  obtain ⟨Q, hQ⟩ : ∃ Q, Q = MQ below (jQx (S := Nat × Nat × jT) (fun v u => v = .ref u.1 ∧ jRf u.2.2 222 u.2.1 v ∧ jNwv v H0 ∧ u.2.1 = a1.toInt) (fun u t => jRa (dC, dI) B base G0 u.2.2 EJ7_copyOf_6403cL2 H0 (1) (u.2.1) [] t.heap ∧ (jNk [0, 1, 2, 3, 4, 5, 6, 7, 8, 9, 10, 11, 12, 13, 14, 15, 16]) G0 u.2.2 ∧ (∃ f : Nat → Option Nat, jQc dC dI (ca 9) u.1 u.2.1 f t.heap ∧ (∀ j, j < n0 → f j = fq j)) ∧ jKe G0 u.2.2 H0 t.heap) (jA base)) ([.ref r0, .int a1, .ref (dI 99 1)] : List Value).toArray s (LC - H0.size) (LS - jTot H0) (jA base) := ⟨_, rfl⟩
  rw [← hQ]
  have hl := lv_entry ([.ref r0, .int a1, .ref (dI 99 1)]) (n := 4) (Nat.le_of_ble_eq_true rfl)
  rw [lg_entry_eq]
  generalize (lg_sl ([.ref r0, .int a1, .ref (dI 99 1)]) ++ List.replicate (4 - (lg_sl ([.ref r0, .int a1, .ref (dI 99 1)])).length) Slot.unset).toArray = ls at hl ⊢
  have hl : lv_has ls 4 [(0, .ref r0), (1, .int a1), (2, .ref (dI 99 1))] := hl
  generalize hR : (headSpec (jw yJ7_copyOf_6403c cJ7_copyOf_6403c 4 (some (.array (.object "java/lang/Object")))) ({ frames := 1, cells := LC - H0.size, slots := LS - jTot H0, locals := 61 })).room = R
  subst hH0
  have hh : jSt (dC, dI) B base G0 G0 EJ7_copyOf_6403cL2 s.heap 0 0 [] [] [([(222, 0)], jQc dC dI (ca 9) r0 n0 fq)] s.heap [] := jSt.start hX hP0 jMc.nil hI0
  clear hX hP0
  have hk0 : (0 : Int32).toInt = 0 := by decide
  have hk1 : (1 : Int32).toInt = 1 := by decide
  have hrg_a1 := jb_rng a1
  have hbs : base ≤ s.heap.size := Nat.le_of_lt (Nat.lt_of_le_of_lt (hh.ab hg_r0).1 (hh.ab hg_r0).2)
  have hRc : R.cells = LC - s.heap.size := by rw [← hR]; rfl
  have hRs : R.slots = LS - jTot s.heap := by rw [← hR]; rfl
  have hkp : jKe G0 G0 s.heap s.heap := jKe.rf
  refine lv_aload_n hx hb dJ7_copyOf_6403c_0 rfl (lv_at hl 2 rfl) ?_
  refine va_ldcM hx hb hown (htw (.classLink RJ7 110 "[Ljava/lang/Object;") (jWr_34 _ (List.mem_of_getElem? (i := 22) rfl))) hK7.2.2.2.1 dJ7_copyOf_6403c_1 ?_
  refine lv_acmp_ne (rx := (some (dI 99 1))) (ry := (some (dI 99 1))) (tgt := 13) hx hb dJ7_copyOf_6403c_3 (by decide) (fun c_1 => ?_) (fun c_1 => ?_)
  · skip
    exact absurd rfl c_1
  · skip
    refine lv_iload_n hx hb dJ7_copyOf_6403c_6 rfl (lv_at hl 1 rfl) ?_
    have hsz_2 := hh.2.2.2.2.2.1
    have htt_2 := hh.2.2.2.2.2.2.1
    have hsy_2 : s.heap.size ≤ s.heap.size := hh.1.1
    refine j7_newqR hx hb hown (htw (.classLink RJ7 2 "java/lang/Object") (jWr_34 _ (List.mem_of_getElem? (i := 23) rfl))) hK7.2.1 hK7.1 hh hB 0 rfl (x := a1.toInt) rfl (by omega) (by rw [hRc]; omega) (by rw [hRs]; omega) dJ7_copyOf_6403c_7 (fun H_2 hfr_2 hnr_2 hraw_2 hh_2 => ?_)
    have hke_2 : jKe G0 G0 s.heap H_2 := jKe.raw hfr_2
    have hbr_2 : base ≤ s.heap.size := Nat.le_trans hbs hsy_2
    obtain ⟨nq_2, hnq_2⟩ : ∃ q : Nat, q = (a1.toInt).toNat := ⟨_, rfl⟩
    rw [← hnq_2] at hraw_2 hh_2 ⊢
    clear hh
    have hkp_3 := hkp.tr hke_2
    refine lv_goto (tgt := 24) hx hb dJ7_copyOf_6403c_10 (by decide) ?_
    refine lv_astore_n (lv' := [(3, .ref s.heap.size), (0, .ref r0), (1, .int a1), (2, .ref (dI 99 1))]) hx hb dJ7_copyOf_6403c_24 rfl hl (by decide) rfl (fun ls hl => ?_)
    refine lv_aload_n hx hb dJ7_copyOf_6403c_25 rfl (lv_at hl 1 rfl) ?_
    refine lv_iconst (v := 0) hx hb dJ7_copyOf_6403c_26 (by decide) ?_
    refine lv_aload_n hx hb dJ7_copyOf_6403c_27 rfl (lv_at hl 0 rfl) ?_
    refine lv_iconst (v := 0) hx hb dJ7_copyOf_6403c_28 (by decide) ?_
    refine lv_aload_n hx hb dJ7_copyOf_6403c_29 rfl (lv_at hl 1 rfl) ?_
    refine j7_qlen hx hb hK7.1 hh_2 hB222 0 rfl (by decide) hg_r0 (by omega) dJ7_copyOf_6403c_30 (fun z_4 hz_4 => ?_)
    refine lv_iload_n hx hb dJ7_copyOf_6403c_31 rfl (lv_at hl 2 rfl) ?_
    have hsz_5 := hh_2.2.2.2.2.2.1
    have htt_5 := hh_2.2.2.2.2.2.2.1
    refine W.room (fun hrc_5 hrs_5 => ?_)
    refine va_mmin hx hb (by rw [hml]; exact hl.1.symm) hown (htw (.methodLink RJ7 304 Lib.Math.min.name) (jWr_16 _ (List.mem_of_getElem? (i := 15) rfl))) (htw (.static Lib.Math.min.name) (jWr_16 _ (List.mem_of_getElem? (i := 16) rfl))) (htw (.initialized "java/lang/Math") (jWr_3 _ (List.mem_of_getElem? (i := 7) rfl))) (htw (.code Lib.Math.min.name Lib.Math.min.code 2 (some .int)) (jWr_16 _ (List.mem_of_getElem? (i := 17) rfl))) (by rw [← hR]; exact Nat.le_of_ble_eq_true rfl) (by rw [← hR]; exact Nat.le_of_ble_eq_true rfl) (by rw [hRc]; omega) (by rw [hRs]; omega) dJ7_copyOf_6403c_32 ?_
    refine lv_topi (fun z_6 ez_6 => ?_)
    have hz_6 := jb_min ez_6
    refine j7_qcopyR hx hb (by rw [hml]; exact hl.1.symm) hown (htw (.methodLink RJ7 150 arraycopyName) (jWr_16 _ (List.mem_of_getElem? (i := 18) rfl))) (htw (.native arraycopyName) (jWr_16 _ (List.mem_of_getElem? (i := 19) rfl))) (htw (.static arraycopyName) (jWr_16 _ (List.mem_of_getElem? (i := 20) rfl))) (htw (.initialized "java/lang/System") (jWr_16 _ (List.mem_of_getElem? (i := 21) rfl))) hK hK7.1 hh_2 hB hB222 0 rfl (by decide) hg_r0 (hh_2.iv 0 rfl) hraw_2 hnr_2 hbr_2 hB10 (T := TX8) (N := 5) rfl (by decide) hK7.2.2.1.2.1.1 (x := 0) (y := 0) (z := z_6.toInt) (by decide) (by decide) rfl (by omega) (by rw [← hR]; exact Nat.le_of_ble_eq_true rfl) (by rw [← hR]; exact Nat.le_of_ble_eq_true rfl) dJ7_copyOf_6403c_35 (fun H_7 locs_7 gq_7 hc_7 hp_7 hraw_7 hr_7 hh_7 => ?_)
    have hkp_8 := hkp_3.st hsy_2 hr_7
    clear hr_7
    clear hh_2
    refine lv_aload_n hx hb dJ7_copyOf_6403c_38 rfl (lv_at hl 0 rfl) ?_
    have hsz_9 := hh_7.2.2.2.2.2.1
    have htt_9 := hh_7.2.2.2.2.2.2.1
    refine W.room (fun hrc_9 hrs_9 => ?_)
    refine W.widen (k := LC - s.heap.size) (n := LS - jTot s.heap) (by omega) (by omega) ?_
    rw [hQ]
    have hle_10 : jLe G0 (va_up G0 s.heap.size (some (222, nq_2))) := jLe.typ hnr_2
    have hh_10 := hh_7.typ (k := 222) (n := nq_2) hB hnr_2 hbr_2 hraw_7.lt (jAq.of hB222 hraw_7 (fun j hj => ((hp_7 (fun _ _ => Or.inl rfl)) j hj).up hle_10))
    have hgn_10 : (va_up G0 s.heap.size (some (222, nq_2))) s.heap.size = some (222, nq_2) := jUp_self
    have hN_10 : (jNk [0, 1, 2, 3, 4, 5, 6, 7, 8, 9, 10, 11, 12, 13, 14, 15, 16]) G0 (va_up G0 s.heap.size (some (222, nq_2))) := jNk.new (by decide)
    have hNn_10 : (jNk [0, 1, 2, 3, 4, 5, 6, 7, 8, 9, 10, 11, 12, 13, 14, 15, 16]) G0 (va_up G0 s.heap.size (some (222, nq_2))) := (jNk.rf).tr hN_10
    have hkp_11 := hkp_8.typn (t := some (222, nq_2)) hsy_2
    have hh_12 := hh_10.addI (jQc.ie hraw_7 hgn_10 (by decide) (by decide))
    clear hh_10
    exact W.aret (v := .ref s.heap.size) hx hb hr (Or.inr ⟨_, rfl⟩) (Or.inr ⟨_, rfl⟩) (fun t ht hW => ⟨⟨.ref s.heap.size, (s.heap.size, nq_2, (va_up G0 s.heap.size (some (222, nq_2)))), rfl, ⟨rfl, ⟨_, rfl, hgn_10⟩, ⟨_, rfl, hsy_2⟩, by (try dsimp only); first | omega | rfl | assumption | fail⟩, ⟨hh_12.ra (by first | omega | (simp only; omega)) (by first | omega | (simp only; omega)) (M1 := []) [] rfl ht, hNn_10, ⟨_, by rw [ht]; exact hh_12.iv 0 rfl, jQz hc_7 (by omega) (by omega) (by omega) (by omega)⟩, by rw [ht]; exact hkp_11⟩⟩, by rw [ht]; try exact hh_12.1.1, fun q h9 hq => by rw [ht]; try exact hh_12.1.2.1 q h9 hq⟩) hh_12.1.2.2 dJ7_copyOf_6403c_39
set_option maxHeartbeats 4000000 in
set_option maxRecDepth 20000 in
theorem uJ7_copyOf_1904cL2 (l : Launch) (dC : Nat → ClassId) (dI : Nat → Nat → Nat) (ca : Nat → ClassId) (base : Nat) (B : jF) (hB : jBok B) (hAp : jAp (dC, dI)) (hB10 : ∀ n G a H, B 10 n G a H ↔ jOb (dC, dI) 10 5 (F10 n G) a H) (hB222 : ∀ n G a H, B 222 n G a H ↔ jAq (dC, dI) (ca 9) (jQn 10 0) n G a H) (G0 : jT) (H0 : Heap) (r0 : Nat) (a1 : Int32) (n0 : Nat) (fq : Nat → Option Nat) (LC LS : Nat) : Met l yJ7_copyOf_1904c (jw yJ7_copyOf_1904c cJ7_copyOf_1904c 2 (some (.array (.object "java/lang/Object")))) ({ frames := 2, cells := LC - H0.size, slots := LS - jTot H0, locals := 84 }) (va_Pc [.ref r0, .int a1] (fun U => U.heap = H0 ∧ jX B base G0 [] H0 ∧ jG dC dI ca base U ∧ jK7 dC dI ca base U ∧ G0 r0 = some (222, n0) ∧ jP (dC, dI) G0 H0 [] ∧ jIs (dC, dI) G0 H0 [([(222, 0)], jQc dC dI (ca 9) r0 n0 fq)] ∧ H0.size + 1 ≤ LC ∧ jTot H0 + a1.toInt.toNat ≤ LS ∧ n0 ≤ 40 ∧ n0 ≤ a1.toInt ∧ a1.toInt ≤ 40)) (jQx (S := Nat × Nat × jT) (fun v u => v = .ref u.1 ∧ jRf u.2.2 222 u.2.1 v ∧ jNwv v H0 ∧ u.2.1 = a1.toInt) (fun u t => jRa (dC, dI) B base G0 u.2.2 EJ7_copyOf_1904cL2 H0 (1) (u.2.1) [] t.heap ∧ (jNk [0, 1, 2, 3, 4, 5, 6, 7, 8, 9, 10, 11, 12, 13, 14, 15, 16]) G0 u.2.2 ∧ (∃ f : Nat → Option Nat, jQc dC dI (ca 9) u.1 u.2.1 f t.heap ∧ (∀ j, j < n0 → f j = fq j)) ∧ jKe G0 u.2.2 H0 t.heap) (jA base)) (LC - H0.size) (LS - jTot H0) (jA base) := by
  refine Met.ofW (cc := cJ7_copyOf_1904c) (maxL := 2) (ret := (some (.array (.object "java/lang/Object")))) (by decide) rfl ?_
  intro p e s m args below meth c s₁ Bd hml hv
  obtain ⟨rfl, hH0, hX, hG, hK7, hg_r0, hP0, hI0, hLC0, hLS0, hp0, hp1, hp2⟩ := hv
  have hK := hG.1
  have hx := Bd.exec
  have hb := Bd.bytes
  have hr := Bd.returns
  have hts := atoms_spec (ws := (jw yJ7_copyOf_1904c cJ7_copyOf_1904c 2 (some (.array (.object "java/lang/Object"))))) Bd.pre
  have htw : ∀ w ∈ jWl, w.before _ s = true := fun w h => hts w (List.mem_cons_of_mem _ h)
  have hown : s.vm.findClass RJ7 = some m.cls := findClass_of_methodNamed Bd.named
  have hlocks := Bd.notSynchronized
  obtain ⟨Q, hQ⟩ : ∃ Q, Q = MQ below (jQx (S := Nat × Nat × jT) (fun v u => v = .ref u.1 ∧ jRf u.2.2 222 u.2.1 v ∧ jNwv v H0 ∧ u.2.1 = a1.toInt) (fun u t => jRa (dC, dI) B base G0 u.2.2 EJ7_copyOf_1904cL2 H0 (1) (u.2.1) [] t.heap ∧ (jNk [0, 1, 2, 3, 4, 5, 6, 7, 8, 9, 10, 11, 12, 13, 14, 15, 16]) G0 u.2.2 ∧ (∃ f : Nat → Option Nat, jQc dC dI (ca 9) u.1 u.2.1 f t.heap ∧ (∀ j, j < n0 → f j = fq j)) ∧ jKe G0 u.2.2 H0 t.heap) (jA base)) ([.ref r0, .int a1] : List Value).toArray s (LC - H0.size) (LS - jTot H0) (jA base) := ⟨_, rfl⟩
  rw [← hQ]
  have hl := lv_entry ([.ref r0, .int a1]) (n := 2) (Nat.le_of_ble_eq_true rfl)
  rw [lg_entry_eq]
  generalize (lg_sl ([.ref r0, .int a1]) ++ List.replicate (2 - (lg_sl ([.ref r0, .int a1])).length) Slot.unset).toArray = ls at hl ⊢
  have hl : lv_has ls 2 [(0, .ref r0), (1, .int a1)] := hl
  generalize hR : (headSpec (jw yJ7_copyOf_1904c cJ7_copyOf_1904c 2 (some (.array (.object "java/lang/Object")))) ({ frames := 2, cells := LC - H0.size, slots := LS - jTot H0, locals := 84 })).room = R
  subst hH0
  have hh : jSt (dC, dI) B base G0 G0 EJ7_copyOf_1904cL2 s.heap 0 0 [] [] [([(222, 0)], jQc dC dI (ca 9) r0 n0 fq)] s.heap [] := jSt.start hX hP0 jMc.nil hI0
  clear hX hP0
  have hk0 : (0 : Int32).toInt = 0 := by decide
  have hk1 : (1 : Int32).toInt = 1 := by decide
  have hrg_a1 := jb_rng a1
  have hbs : base ≤ s.heap.size := Nat.le_of_lt (Nat.lt_of_le_of_lt (hh.ab hg_r0).1 (hh.ab hg_r0).2)
  have hRc : R.cells = LC - s.heap.size := by rw [← hR]; rfl
  have hRs : R.slots = LS - jTot s.heap := by rw [← hR]; rfl
  have hkp : jKe G0 G0 s.heap s.heap := jKe.rf
  refine lv_aload_n hx hb dJ7_copyOf_1904c_0 rfl (lv_at hl 0 rfl) ?_
  refine lv_iload_n hx hb dJ7_copyOf_1904c_1 rfl (lv_at hl 1 rfl) ?_
  refine lv_aload_n hx hb dJ7_copyOf_1904c_2 rfl (lv_at hl 0 rfl) ?_
  refine j7_getC hx hb (by rw [hml]; exact hl.1.symm) hown (htw (.methodLink RJ7 86 ⟨"java/lang/Object", "getClass", "()Ljava/lang/Class;"⟩) (jWr_34 _ (List.mem_of_getElem? (i := 15) rfl))) (htw (.selects "[Ljava/lang/Object;" ⟨"java/lang/Object", "getClass", "()Ljava/lang/Class;"⟩ ⟨"java/lang/Object", "getClass", "()Ljava/lang/Class;"⟩) (jWr_34 _ (List.mem_of_getElem? (i := 16) rfl))) (htw (.instanceMethod ⟨"java/lang/Object", "getClass", "()Ljava/lang/Class;"⟩) (jWr_34 _ (List.mem_of_getElem? (i := 17) rfl))) (htw (.native ⟨"java/lang/Object", "getClass", "()Ljava/lang/Class;"⟩) (jWr_34 _ (List.mem_of_getElem? (i := 18) rfl))) hK7 hh hB222 (by decide) hg_r0 (by rw [← hR]; exact Nat.le_of_ble_eq_true rfl) (by rw [← hR]; exact Nat.le_of_ble_eq_true rfl) dJ7_copyOf_1904c_3 ?_
  have hsz_1 := hh.2.2.2.2.2.1
  have htt_1 := hh.2.2.2.2.2.2.1
  refine W.room (fun hrc_1 hrs_1 => ?_)
  refine j_callx (A0 := jA base) (H0 := s.heap) (va_runS (As := [.ref r0, .int a1, .ref (dI 99 1)]) (rest := []) ⟨hx, hb, hml, hown, hts⟩ (uJ7_copyOf_6403cL2 l dC dI ca base B hB hAp hB10 hB222 G0 s.heap r0 a1 n0 fq LC LS) (va_cwS 3 hts (jgS (jWr_34 _ (List.mem_of_getElem? (i := 19) rfl)) (jWr_34 _ (List.mem_of_getElem? (i := 20) rfl)) (jWr_16 _ (List.mem_of_getElem? (i := 7) rfl)) (jWr_34 _ (List.mem_of_getElem? (i := 21) rfl))) rfl rfl rfl (by decide +kernel) ⟨by rw [← hR]; exact Nat.le_of_ble_eq_true rfl, by rw [← hR]; exact Nat.le_of_ble_eq_true rfl⟩) ⟨fun a U g mk q => by obtain ⟨q0, q1, q2, qK, q10, q11, q12, q13, q14⟩ := q; exact ⟨q0, q1, q2, jG.calling g mk a qK, (jK7.calling g mk a q10), q11, q12, q13, q14⟩, fun U hU hW => ⟨rfl, hU, hh.2.1, hG.step hW hU hh.1, (hK7.step hW hU hh.1), hg_r0, jP.nil, (hh.2.2.2.2.2.2.2.2.sub (L1 := [([(222, 0)], jQc dC dI (ca 9) r0 n0 fq)]) [0] rfl), by first | omega | (refine ⟨?_, ?_, ?_⟩ <;> (first | omega | rfl | assumption | decide | exact Or.inl rfl | exact Or.inr rfl | (simp only; omega)))⟩⟩ rfl rfl hl.1 rfl (lv_room (Nat.le_of_ble_eq_true rfl)) dJ7_copyOf_1904c_6 ⟨by rw [hRc]; omega, by rw [hRs]; omega⟩) hh.1 (fun q _ h => h) (fun q h => h) (fun r_2 u_1 t_1 H_1 locs_1 ht_1 hvm_1 hr_2 hb_1 hz_1 hk_1 hS_1 => ?_)
  rw [ht_1] at hb_1
  obtain ⟨x_ret_1, m_ret_1, G_1⟩ := u_1
  simp only at hb_1
  obtain ⟨⟨hb_11, hb_12, hb_13, hb_14, hb_15, hb_16⟩, hN_1, hbQ_1, hbK_1⟩ := hb_1
  have hh_1 : jSt (dC, dI) B base G0 G_1 EJ7_copyOf_1904cL2 s.heap (0 + (1)) (0 + (m_ret_1)) [] [] [([(222, 0)], jQc dC dI (ca 9) r0 n0 fq)] H_1 locs_1 := (hh.callG hb_11 hb_12 hb_13 hb_14 hb_15 hS_1 rfl (L1 := []) [] rfl rfl (M1 := []) [] rfl rfl (I1 := [([(222, 0)], jQc dC dI (ca 9) r0 n0 fq)]) [0] rfl rfl).more hb_16
  have hNn_1 : (jNk [0, 1, 2, 3, 4, 5, 6, 7, 8, 9, 10, 11, 12, 13, 14, 15, 16]) G0 G_1 := (jNk.rf).tr hN_1
  have hg_3 := hb_12 _ _ hg_r0
  obtain ⟨rfl, hr_2, hr_2n, hr_2p⟩ := hr_2
  try simp only at hr_2p
  have hkp_5 := hkp.tr hbK_1
  have hgr_1 : G_1 x_ret_1 = some (222, m_ret_1) := by obtain ⟨y9, e9, h9⟩ := hr_2; cases e9; exact h9
  have hsy_1 : s.heap.size ≤ x_ret_1 := Nat.le_trans hh.1.1 hr_2n.le
  obtain ⟨fr_1, hqa_1, hqr_1⟩ := hbQ_1
  have hh_6 := hh_1.addI (jQc.ie hqa_1 hgr_1 (by decide) (by decide))
  clear hh_1
  have hsz_7 := hh_6.2.2.2.2.2.1
  have htt_7 := hh_6.2.2.2.2.2.2.1
  refine W.room (fun hrc_7 hrs_7 => ?_)
  refine W.widen (k := LC - s.heap.size) (n := LS - jTot s.heap) (by omega) (by omega) ?_
  rw [hQ]
  exact W.aret (v := .ref x_ret_1) hx hb hr (Or.inr ⟨_, rfl⟩) (Or.inr ⟨_, rfl⟩) (fun t ht hW => ⟨⟨.ref x_ret_1, (x_ret_1, m_ret_1, G_1), rfl, ⟨rfl, ⟨_, rfl, hgr_1⟩, ⟨_, rfl, hsy_1⟩, by (try dsimp only); first | omega | rfl | assumption | fail⟩, ⟨hh_6.ra (by first | omega | (simp only; omega)) (by first | omega | (simp only; omega)) (M1 := []) [] rfl ht, hNn_1, ⟨_, by rw [ht]; exact hh_6.iv 0 rfl, hqr_1⟩, by rw [ht]; exact hkp_5⟩⟩, by rw [ht]; try exact hh_6.1.1, fun q h9 hq => by rw [ht]; try exact hh_6.1.2.1 q h9 hq⟩) hh_6.1.2.2 dJ7_copyOf_1904c_9
set_option maxHeartbeats 4000000 in
set_option maxRecDepth 20000 in
theorem uJx4a65c_grow_92f84E2 (l : Launch) (dC : Nat → ClassId) (dI : Nat → Nat → Nat) (ca : Nat → ClassId) (base : Nat) (B : jF) (hB : jBok B) (hAp : jAp (dC, dI)) (hB1 : ∀ n G a H, B 1 n G a H ↔ jOb (dC, dI) 1 3 (F1 n G) a H) (hB10 : ∀ n G a H, B 10 n G a H ↔ jOb (dC, dI) 10 5 (F10 n G) a H) (hB222 : ∀ n G a H, B 222 n G a H ↔ jAq (dC, dI) (ca 9) (jQn 10 0) n G a H) (G0 : jT) (H0 : Heap) (r0 : Nat) (a1 : Int32) (lz : Int32) (LC LS : Nat) : Met l yJx4a65c_grow_92f84 (jw yJx4a65c_grow_92f84 cJx4a65c_grow_92f84 4 (some (.array (.object "java/lang/Object")))) ({ frames := 3, cells := LC - H0.size, slots := LS - jTot H0, locals := 105 }) (va_Pc [.ref r0, .int a1] (fun U => U.heap = H0 ∧ jX B base G0 [] H0 ∧ jG dC dI ca base U ∧ jK7 dC dI ca base U ∧ G0 r0 = some (1, 2) ∧ jP (dC, dI) G0 H0 [(r0, 1, 1, .ref (dI 99 0)), (r0, 1, 2, .int lz)] ∧ jIs (dC, dI) G0 H0 [(jFl, jLs dC dI ca G0 3 none)] ∧ H0.size + 1 ≤ LC ∧ jTot H0 + 40 ≤ LS ∧ a1.toInt = 1 ∧ lz.toInt = 0)) (jQx (S := Nat × Nat × jT) (fun v u => v = .ref u.1 ∧ u.2.1 = 10) (fun u t => jRa (dC, dI) B base G0 u.2.2 EJx4a65c_grow_92f84E2 H0 (1) (40) [(r0, 1, 1, .ref u.1)] t.heap ∧ u.2.2 u.1 = some (222, u.2.1) ∧ (jNk [0, 1, 2, 3, 4, 5, 6, 7, 8, 9, 10, 11, 12, 13, 14, 15, 16]) G0 u.2.2 ∧ jIs (dC, dI) u.2.2 t.heap [(jFl, jLs dC dI ca u.2.2 3 none)]) (jA base)) (LC - H0.size) (LS - jTot H0) (jA base) := by
  refine Met.ofW (cc := cJx4a65c_grow_92f84) (maxL := 4) (ret := (some (.array (.object "java/lang/Object")))) (by decide) rfl ?_
  intro p e s m args below meth c s₁ Bd hml hv
  obtain ⟨rfl, hH0, hX, hG, hK7, hg_r0, hP0, hI0, hLC0, hLS0, hp0, hp1⟩ := hv
  have hK := hG.1
  have hx := Bd.exec
  have hb := Bd.bytes
  have hr := Bd.returns
  have hts := atoms_spec (ws := (jw yJx4a65c_grow_92f84 cJx4a65c_grow_92f84 4 (some (.array (.object "java/lang/Object"))))) Bd.pre
  have htw : ∀ w ∈ jWl, w.before _ s = true := fun w h => hts w (List.mem_cons_of_mem _ h)
  have hown : s.vm.findClass RJx4a65c = some m.cls := findClass_of_methodNamed Bd.named
  have hlocks := Bd.notSynchronized
  obtain ⟨Q, hQ⟩ : ∃ Q, Q = MQ below (jQx (S := Nat × Nat × jT) (fun v u => v = .ref u.1 ∧ u.2.1 = 10) (fun u t => jRa (dC, dI) B base G0 u.2.2 EJx4a65c_grow_92f84E2 H0 (1) (40) [(r0, 1, 1, .ref u.1)] t.heap ∧ u.2.2 u.1 = some (222, u.2.1) ∧ (jNk [0, 1, 2, 3, 4, 5, 6, 7, 8, 9, 10, 11, 12, 13, 14, 15, 16]) G0 u.2.2 ∧ jIs (dC, dI) u.2.2 t.heap [(jFl, jLs dC dI ca u.2.2 3 none)]) (jA base)) ([.ref r0, .int a1] : List Value).toArray s (LC - H0.size) (LS - jTot H0) (jA base) := ⟨_, rfl⟩
  rw [← hQ]
  have hl := lv_entry ([.ref r0, .int a1]) (n := 4) (Nat.le_of_ble_eq_true rfl)
  rw [lg_entry_eq]
  generalize (lg_sl ([.ref r0, .int a1]) ++ List.replicate (4 - (lg_sl ([.ref r0, .int a1])).length) Slot.unset).toArray = ls at hl ⊢
  have hl : lv_has ls 4 [(0, .ref r0), (1, .int a1)] := hl
  generalize hR : (headSpec (jw yJx4a65c_grow_92f84 cJx4a65c_grow_92f84 4 (some (.array (.object "java/lang/Object")))) ({ frames := 3, cells := LC - H0.size, slots := LS - jTot H0, locals := 105 })).room = R
  subst hH0
  have hh : jSt (dC, dI) B base G0 G0 EJx4a65c_grow_92f84E2 s.heap 0 0 [(r0, 1, 1, .ref (dI 99 0)), (r0, 1, 2, .int lz)] [] [(jFl, jLs dC dI ca G0 3 none)] s.heap [] := jSt.start hX hP0 jMc.nil hI0
  clear hX hP0
  have hk0 : (0 : Int32).toInt = 0 := by decide
  have hk1 : (1 : Int32).toInt = 1 := by decide
  have hk10 : (10 : Int32).toInt = 10 := by decide
  have hly_1_1 := htw (u_lay RJx4a65c TJx4a65c 1) (jWc_wsJx4a65c0 _ (u_in_lay (by decide)))
  have hlk_9 := (htw (.fieldLink RJx4a65c 9 "java/util/ArrayList" "elementData" "[Ljava/lang/Object;") (jWr_9 _ (List.mem_of_getElem? (i := 15) rfl)))
  have hrg_a1 := jb_rng a1
  have hbs : base ≤ s.heap.size := Nat.le_of_lt (Nat.lt_of_le_of_lt (hh.ab hg_r0).1 (hh.ab hg_r0).2)
  have hRc : R.cells = LC - s.heap.size := by rw [← hR]; rfl
  have hRs : R.slots = LS - jTot s.heap := by rw [← hR]; rfl
  obtain ⟨lz_1, lx_1, hl1_1, hl2_1, hl3_1, hl4_1⟩ := jLs.at (hh.iv 0 rfl) hg_r0
  obtain rfl : lz = lz_1 := Value.int.inj (jf.uniq (hh.at 1 rfl) hl1_1)
  have hl3_1 : 0 ≤ lz.toInt ∧ lz.toInt ≤ 12 := hl3_1
  obtain rfl : (dI 99 0) = lx_1 := Value.ref.inj (jf.uniq (hh.at 0 rfl) hl2_1)
  rcases hl4_1 with ⟨hl9_1, hl5_1⟩ | ⟨lm_1, lf_1, hg_lx_1, hlm_1, hl6_1, hl7_1, hl8_1⟩
  · skip
    have hd_2 := jLs.less (hh.iv 0 rfl) r0
    have hh_3 := hh.sub (L1 := [(r0, 1, 1, .ref (dI 99 0)), (r0, 1, 2, .int lz)]) [0, 1] rfl (M1 := []) [] rfl (I1 := []) [] rfl
    clear hh
    have hh_4 := hh_3.addI (jLs.ie hd_2)
    clear hh_3
    refine lv_aload_n hx hb dJx4a65c_grow_92f84_0 rfl (lv_at hl 0 rfl) ?_
    refine j7_read hx hb hown hK (C := RJx4a65c) (T := TJx4a65c) (N := 3) rfl hly_1_1 hlk_9 (hh_4.at 0 rfl) dJx4a65c_grow_92f84_1 ?_
    refine va_tlen hx hb hK7.2.2.2.2.2.2.2 hh_4.1 (v := Int32.ofNat 0) rfl dJx4a65c_grow_92f84_4 ?_
    refine lv_topi (fun z_5 ez_5 => ?_)
    have hz_5 : z_5.toInt = 0 := by rw [ez_5]; rfl
    refine lv_istore_n (lv' := [(2, .int z_5), (0, .ref r0), (1, .int a1)]) hx hb dJx4a65c_grow_92f84_5 rfl hl (by decide) rfl (fun ls hl => ?_)
    refine lv_iload_n hx hb dJx4a65c_grow_92f84_6 rfl (lv_at hl 0 rfl) ?_
    refine lv_if_gt (tgt := 20) hx hb dJx4a65c_grow_92f84_7 (by decide) (fun c_6 => ?_) (fun c_6 => ?_)
    · skip
      have c_6' : z_5.toInt > 0 := jb_gt (rfl) ((by decide)) c_6
      exact absurd c_6' (by omega)
    · skip
      have c_6' : z_5.toInt ≤ 0 := jb_gt_n (rfl) ((by decide)) c_6
      refine lv_aload_n hx hb dJx4a65c_grow_92f84_10 rfl (lv_at hl 1 rfl) ?_
      refine j7_read hx hb hown hK (C := RJx4a65c) (T := TJx4a65c) (N := 3) rfl hly_1_1 hlk_9 (hh_4.at 0 rfl) dJx4a65c_grow_92f84_11 ?_
      refine va_gets hx hb hK7.2.2.2.2.2.2.1 hh_4.1 hown (htw (.fieldLink RJx4a65c 39 "java/util/ArrayList" "DEFAULTCAPACITY_EMPTY_ELEMENTDATA" "[Ljava/lang/Object;") (jWr_9 _ (List.mem_of_getElem? (i := 14) rfl))) (fun _ h9 => h9) dJx4a65c_grow_92f84_14 ?_
      refine lv_acmp_eq (rx := (some (dI 99 0))) (ry := (some (dI 99 0))) (tgt := 45) hx hb dJx4a65c_grow_92f84_17 (by decide) (fun c_8 => ?_) (fun c_8 => ?_)
      · skip
        refine lv_aload_n hx hb dJx4a65c_grow_92f84_45 rfl (lv_at hl 1 rfl) ?_
        refine lv_bipush (v := 10) hx hb dJx4a65c_grow_92f84_46 (by decide) ?_
        refine lv_iload_n hx hb dJx4a65c_grow_92f84_48 rfl (lv_at hl 2 rfl) ?_
        have hsz_9 := hh_4.2.2.2.2.2.1
        have htt_9 := hh_4.2.2.2.2.2.2.1
        refine W.room (fun hrc_9 hrs_9 => ?_)
        refine va_mmax hx hb (by rw [hml]; exact hl.1.symm) hown (htw (.methodLink RJx4a65c 79 Lib.Math.max.name) (jWr_34 _ (List.mem_of_getElem? (i := 1) rfl))) (htw (.static Lib.Math.max.name) (jWr_3 _ (List.mem_of_getElem? (i := 6) rfl))) (htw (.initialized "java/lang/Math") (jWr_3 _ (List.mem_of_getElem? (i := 7) rfl))) (htw (.code Lib.Math.max.name Lib.Math.max.code 2 (some .int)) (jWr_3 _ (List.mem_of_getElem? (i := 8) rfl))) (by rw [← hR]; exact Nat.le_of_ble_eq_true rfl) (by rw [← hR]; exact Nat.le_of_ble_eq_true rfl) (by rw [hRc]; omega) (by rw [hRs]; omega) dJx4a65c_grow_92f84_49 ?_
        refine lv_topi (fun z_10 ez_10 => ?_)
        have hz_10 := jb_max ez_10
        have hsz_11 := hh_4.2.2.2.2.2.1
        have htt_11 := hh_4.2.2.2.2.2.2.1
        have hsy_11 : s.heap.size ≤ s.heap.size := hh_4.1.1
        refine j7_newqK hx hb hown (htw (.classLink RJx4a65c 7 "java/lang/Object") (jWr_34 _ (List.mem_of_getElem? (i := 2) rfl))) hK7.2.1 hK7.1 hh_4 hB hB222 0 rfl (by decide) hbs (x := z_10.toInt) rfl (by omega) (fun _ => Or.inl rfl) (by rw [hRc]; omega) (by rw [hRs]; omega) dJx4a65c_grow_92f84_52 (fun H_11 hfr_11 hh_11 hqn_11 => ?_)
        have hh_11 : jSt (dC, dI) B base G0 (va_up G0 s.heap.size (some (222, (z_10.toInt).toNat))) EJx4a65c_grow_92f84E2 s.heap (0 + 1) (0 + (z_10.toInt).toNat) [(r0, 1, 1, .ref (dI 99 0)), (r0, 1, 2, .int lz)] [] [(jFl, jLs dC dI ca G0 3 (some r0))] H_11 [] := hh_11
        have hN_11 : (jNk [0, 1, 2, 3, 4, 5, 6, 7, 8, 9, 10, 11, 12, 13, 14, 15, 16]) G0 (va_up G0 s.heap.size (some (222, (z_10.toInt).toNat))) := jNk.new (by decide)
        have hgn_11 : (va_up G0 s.heap.size (some (222, (z_10.toInt).toNat))) s.heap.size = some (222, (z_10.toInt).toNat) := jUp_self
        have hle_11 : jLe G0 (va_up G0 s.heap.size (some (222, (z_10.toInt).toNat))) := jLe.new hh_4.2.1.fresh
        have hke_11 : jKe G0 (va_up G0 s.heap.size (some (222, (z_10.toInt).toNat))) s.heap H_11 := jKe.new hfr_11
        have hsy_11 : s.heap.size ≤ s.heap.size := hh_4.1.1
        generalize (va_up G0 s.heap.size (some (222, (z_10.toInt).toNat))) = G_11 at hN_11 hgn_11 hle_11 hke_11 hh_11
        generalize hnc_11 : (z_10.toInt).toNat = nc_11 at hgn_11 hh_11 ⊢
        clear hh_4
        have hNn_11 : (jNk [0, 1, 2, 3, 4, 5, 6, 7, 8, 9, 10, 11, 12, 13, 14, 15, 16]) G0 G_11 := (jNk.rf).tr hN_11
        have hg_12 := hle_11 _ _ hg_r0
        have hd_13 := jLs.grow (hh_11.iv 0 rfl) hle_11 hN_11 (by decide)
        have hh_14 := hh_11.sub (L1 := [(r0, 1, 1, .ref (dI 99 0)), (r0, 1, 2, .int lz)]) [0, 1] rfl (M1 := []) [] rfl (I1 := []) [] rfl
        clear hh_11
        have hh_15 := hh_14.addI (jLs.ie hd_13)
        clear hh_14
        refine lv_dup_x1 hx hb dJx4a65c_grow_92f84_55 rfl rfl ?_
        have hd_17 := hh_15.iv 0 rfl
        have hh_18 := hh_15.sub (L1 := [(r0, 1, 1, .ref (dI 99 0)), (r0, 1, 2, .int lz)]) [0, 1] rfl (M1 := []) [] rfl (I1 := []) [] rfl
        clear hh_15
        refine j7_putX hx hb hown hK hh_18 hB hAp hB1 (C := RJx4a65c) (T := TJx4a65c) (N := 3) rfl (by decide) hg_12 (i := 1) (by decide) hly_1_1 rfl hlk_9 rfl (ty := (.array (.object "java/lang/Object"))) (v := .ref s.heap.size) (by decide +kernel) rfl rfl (⟨_, rfl⟩) rfl (L1 := [(r0, 1, 2, .int lz)]) [1] rfl rfl rfl dJx4a65c_grow_92f84_56 (fun H_16 locs_16 hr_16 hh_16 => ?_)
        clear hh_18
        have hd_17n := jLs.fld hd_17 hg_12 hr_16
        have hh_19 := hh_16.addI (jLs.ie hd_17n)
        clear hh_16
        clear hd_17 hd_17n hr_16
        obtain ⟨fq_21, hfq_21a, hfq_21p⟩ := hh_19.aq hB222 (by decide) hgn_11
        have hd_20 := jLs.full (hh_19.iv 0 rfl) hg_12 ⟨_, _, hh_19.at 1 rfl, hh_19.at 0 rfl, ⟨by omega, (show _ ≤ (12 : Int) by omega)⟩, Or.inr ⟨_, _, hgn_11, by omega, by omega, hfq_21a, (fun i h9 => absurd h9 (by omega))⟩⟩
        have hh_22 := hh_19.sub (L1 := [(r0, 1, 1, .ref s.heap.size), (r0, 1, 2, .int lz)]) [0, 1] rfl (M1 := []) [] rfl (I1 := []) [] rfl
        clear hh_19
        have hh_23 := hh_22.addI (jLs.ie hd_20)
        clear hh_22
        have hsz_24 := hh_23.2.2.2.2.2.1
        have htt_24 := hh_23.2.2.2.2.2.2.1
        refine W.room (fun hrc_24 hrs_24 => ?_)
        refine W.widen (k := LC - s.heap.size) (n := LS - jTot s.heap) (by omega) (by omega) ?_
        rw [hQ]
        exact W.aret (v := .ref s.heap.size) hx hb hr (Or.inr ⟨_, rfl⟩) (Or.inr ⟨_, rfl⟩) (fun t ht hW => ⟨⟨.ref s.heap.size, (s.heap.size, nc_11, G_11), rfl, ⟨rfl, by (try dsimp only); first | omega | rfl | assumption | fail⟩, ⟨hh_23.ra (by first | omega | (simp only; omega)) (by first | omega | (simp only; omega)) (M1 := [(r0, 1, 1, .ref s.heap.size)]) [0] rfl ht, hgn_11, hNn_11, by rw [ht]; exact hh_23.2.2.2.2.2.2.2.2.sub (L1 := [(jFl, jLs dC dI ca G_11 3 none)]) [0] rfl⟩⟩, by rw [ht]; try exact hh_23.1.1, fun q h9 hq => by rw [ht]; try exact hh_23.1.2.1 q h9 hq⟩) hh_23.1.2.2 dJx4a65c_grow_92f84_59
      · skip
        exact absurd rfl c_8
  · skip
    exact absurd (hh.ab hg_lx_1).1 (va_T.out hK7.2.2.2.2.2.2.2)
set_option maxHeartbeats 4000000 in
set_option maxRecDepth 20000 in
theorem uJx4a65c_grow_92f84L2 (l : Launch) (dC : Nat → ClassId) (dI : Nat → Nat → Nat) (ca : Nat → ClassId) (base : Nat) (B : jF) (hB : jBok B) (hAp : jAp (dC, dI)) (hB1 : ∀ n G a H, B 1 n G a H ↔ jOb (dC, dI) 1 3 (F1 n G) a H) (hB10 : ∀ n G a H, B 10 n G a H ↔ jOb (dC, dI) 10 5 (F10 n G) a H) (hB222 : ∀ n G a H, B 222 n G a H ↔ jAq (dC, dI) (ca 9) (jQn 10 0) n G a H) (G0 : jT) (H0 : Heap) (r0 : Nat) (a1 : Int32) (ed : Nat) (n_ed : Nat) (lz : Int32) (LC LS : Nat) : Met l yJx4a65c_grow_92f84 (jw yJx4a65c_grow_92f84 cJx4a65c_grow_92f84 4 (some (.array (.object "java/lang/Object")))) ({ frames := 3, cells := LC - H0.size, slots := LS - jTot H0, locals := 105 }) (va_Pc [.ref r0, .int a1] (fun U => U.heap = H0 ∧ jX B base G0 [] H0 ∧ jG dC dI ca base U ∧ jK7 dC dI ca base U ∧ G0 r0 = some (1, 2) ∧ G0 ed = some (222, n_ed) ∧ jP (dC, dI) G0 H0 [(r0, 1, 1, .ref ed), (r0, 1, 2, .int lz)] ∧ jIs (dC, dI) G0 H0 [(jFl, jLs dC dI ca G0 3 none)] ∧ H0.size + 1 ≤ LC ∧ jTot H0 + 40 ≤ LS ∧ a1.toInt = lz.toInt + 1 ∧ lz.toInt = n_ed ∧ lz.toInt ≤ 24)) (jQx (S := Nat × Nat × jT) (fun v u => v = .ref u.1 ∧ lz.toInt + 1 ≤ u.2.1 ∧ u.2.1 ≤ 40) (fun u t => jRa (dC, dI) B base G0 u.2.2 EJx4a65c_grow_92f84L2 H0 (1) (40) [(r0, 1, 1, .ref u.1)] t.heap ∧ u.2.2 u.1 = some (222, u.2.1) ∧ (jNk [0, 1, 2, 3, 4, 5, 6, 7, 8, 9, 10, 11, 12, 13, 14, 15, 16]) G0 u.2.2 ∧ jIs (dC, dI) u.2.2 t.heap [(jFl, jLs dC dI ca u.2.2 3 none)]) (jA base)) (LC - H0.size) (LS - jTot H0) (jA base) := by
  refine Met.ofW (cc := cJx4a65c_grow_92f84) (maxL := 4) (ret := (some (.array (.object "java/lang/Object")))) (by decide) rfl ?_
  intro p e s m args below meth c s₁ Bd hml hv
  obtain ⟨rfl, hH0, hX, hG, hK7, hg_r0, hg_ed, hP0, hI0, hLC0, hLS0, hp0, hp1, hp2⟩ := hv
  have hK := hG.1
  have hx := Bd.exec
  have hb := Bd.bytes
  have hr := Bd.returns
  have hts := atoms_spec (ws := (jw yJx4a65c_grow_92f84 cJx4a65c_grow_92f84 4 (some (.array (.object "java/lang/Object"))))) Bd.pre
  have htw : ∀ w ∈ jWl, w.before _ s = true := fun w h => hts w (List.mem_cons_of_mem _ h)
  have hown : s.vm.findClass RJx4a65c = some m.cls := findClass_of_methodNamed Bd.named
  have hlocks := Bd.notSynchronized
  obtain ⟨Q, hQ⟩ : ∃ Q, Q = MQ below (jQx (S := Nat × Nat × jT) (fun v u => v = .ref u.1 ∧ lz.toInt + 1 ≤ u.2.1 ∧ u.2.1 ≤ 40) (fun u t => jRa (dC, dI) B base G0 u.2.2 EJx4a65c_grow_92f84L2 H0 (1) (40) [(r0, 1, 1, .ref u.1)] t.heap ∧ u.2.2 u.1 = some (222, u.2.1) ∧ (jNk [0, 1, 2, 3, 4, 5, 6, 7, 8, 9, 10, 11, 12, 13, 14, 15, 16]) G0 u.2.2 ∧ jIs (dC, dI) u.2.2 t.heap [(jFl, jLs dC dI ca u.2.2 3 none)]) (jA base)) ([.ref r0, .int a1] : List Value).toArray s (LC - H0.size) (LS - jTot H0) (jA base) := ⟨_, rfl⟩
  rw [← hQ]
  have hl := lv_entry ([.ref r0, .int a1]) (n := 4) (Nat.le_of_ble_eq_true rfl)
  rw [lg_entry_eq]
  generalize (lg_sl ([.ref r0, .int a1]) ++ List.replicate (4 - (lg_sl ([.ref r0, .int a1])).length) Slot.unset).toArray = ls at hl ⊢
  have hl : lv_has ls 4 [(0, .ref r0), (1, .int a1)] := hl
  generalize hR : (headSpec (jw yJx4a65c_grow_92f84 cJx4a65c_grow_92f84 4 (some (.array (.object "java/lang/Object")))) ({ frames := 3, cells := LC - H0.size, slots := LS - jTot H0, locals := 105 })).room = R
  subst hH0
  have hh : jSt (dC, dI) B base G0 G0 EJx4a65c_grow_92f84L2 s.heap 0 0 [(r0, 1, 1, .ref ed), (r0, 1, 2, .int lz)] [] [(jFl, jLs dC dI ca G0 3 none)] s.heap [] := jSt.start hX hP0 jMc.nil hI0
  clear hX hP0
  have hk0 : (0 : Int32).toInt = 0 := by decide
  have hk1 : (1 : Int32).toInt = 1 := by decide
  have hk10 : (10 : Int32).toInt = 10 := by decide
  have hly_1_1 := htw (u_lay RJx4a65c TJx4a65c 1) (jWc_wsJx4a65c0 _ (u_in_lay (by decide)))
  have hlk_9 := (htw (.fieldLink RJx4a65c 9 "java/util/ArrayList" "elementData" "[Ljava/lang/Object;") (jWr_9 _ (List.mem_of_getElem? (i := 15) rfl)))
  have hrg_a1 := jb_rng a1
  have hbs : base ≤ s.heap.size := Nat.le_of_lt (Nat.lt_of_le_of_lt (hh.ab hg_r0).1 (hh.ab hg_r0).2)
  have hRc : R.cells = LC - s.heap.size := by rw [← hR]; rfl
  have hRs : R.slots = LS - jTot s.heap := by rw [← hR]; rfl
  obtain ⟨lz_1, lx_1, hl1_1, hl2_1, hl3_1, hl4_1⟩ := jLs.at (hh.iv 0 rfl) hg_r0
  obtain rfl : lz = lz_1 := Value.int.inj (jf.uniq (hh.at 1 rfl) hl1_1)
  have hl3_1 : 0 ≤ lz.toInt ∧ lz.toInt ≤ 12 := hl3_1
  obtain rfl : ed = lx_1 := Value.ref.inj (jf.uniq (hh.at 0 rfl) hl2_1)
  rcases hl4_1 with ⟨hl9_1, hl5_1⟩ | ⟨lm_1, lf_1, hg_lx_1, hlm_1, hl6_1, hl7_1, hl8_1⟩
  · skip
    exact absurd (show base ≤ dI 99 0 by rw [← hl9_1]; exact (hh.ab hg_ed).1) (va_T.out hK7.2.2.2.2.2.2.2)
  · skip
    obtain rfl : n_ed = lm_1 := by have h9 := Option.some.inj (hg_ed.symm.trans hg_lx_1); exact congrArg Prod.snd h9
    have hd_2 := jLs.less (hh.iv 0 rfl) r0
    have hh_3 := hh.sub (L1 := [(r0, 1, 1, .ref ed), (r0, 1, 2, .int lz)]) [0, 1] rfl (M1 := []) [] rfl (I1 := []) [] rfl
    clear hh
    have hh_4 := hh_3.addI (jLs.ie hd_2)
    clear hh_3
    have hh_5 := hh_4.addI (jQc.ie hl7_1 hg_lx_1 (by decide) (by decide))
    clear hh_4
    refine lv_aload_n hx hb dJx4a65c_grow_92f84_0 rfl (lv_at hl 0 rfl) ?_
    refine j7_read hx hb hown hK (C := RJx4a65c) (T := TJx4a65c) (N := 3) rfl hly_1_1 hlk_9 (hh_5.at 0 rfl) dJx4a65c_grow_92f84_1 ?_
    refine j7_qlen hx hb hK7.1 hh_5 hB222 0 rfl (by decide) hg_ed (by omega) dJx4a65c_grow_92f84_4 (fun z_6 hz_6 => ?_)
    refine lv_istore_n (lv' := [(2, .int z_6), (0, .ref r0), (1, .int a1)]) hx hb dJx4a65c_grow_92f84_5 rfl hl (by decide) rfl (fun ls hl => ?_)
    refine lv_iload_n hx hb dJx4a65c_grow_92f84_6 rfl (lv_at hl 0 rfl) ?_
    refine lv_if_gt (tgt := 20) hx hb dJx4a65c_grow_92f84_7 (by decide) (fun c_7 => ?_) (fun c_7 => ?_)
    · skip
      have c_7' : z_6.toInt > 0 := jb_gt (rfl) ((by decide)) c_7
      refine lv_iload_n hx hb dJx4a65c_grow_92f84_20 rfl (lv_at hl 0 rfl) ?_
      refine lv_iload_n hx hb dJx4a65c_grow_92f84_21 rfl (lv_at hl 2 rfl) ?_
      refine lv_iload_n hx hb dJx4a65c_grow_92f84_22 rfl (lv_at hl 0 rfl) ?_
      refine lv_isub hx hb dJx4a65c_grow_92f84_23 ?_
      refine lv_topi (fun z_8 ez_8 => ?_)
      have hz_8 : z_8.toInt = a1.toInt - z_6.toInt := by rw [ez_8]; exact jb_isub2 (rfl) (rfl) (by omega)
      refine lv_iload_n hx hb dJx4a65c_grow_92f84_24 rfl (lv_at hl 0 rfl) ?_
      refine lv_iconst (v := 1) hx hb dJx4a65c_grow_92f84_25 (by decide) ?_
      refine lv_ishr hx hb dJx4a65c_grow_92f84_26 ?_
      refine lv_topi (fun z_9 ez_9 => ?_)
      have hz_9 : z_9.toInt = z_6.toInt / 2 ^ 1 := by rw [ez_9]; exact jb_ishr 1 (rfl) (by decide)
      have hsz_10 := hh_5.2.2.2.2.2.1
      have htt_10 := hh_5.2.2.2.2.2.2.1
      refine W.room (fun hrc_10 hrs_10 => ?_)
      refine va_calli (A0 := jA base) (H0 := s.heap) (va_runS (As := [.int z_6, .int z_8, .int z_9]) (rest := []) ⟨hx, hb, hml, hown, hts⟩ (uJ8_newLength_cabcc l dC dI ca base B hB hAp G0 s.heap z_6 z_8 z_9) (va_cwS 3 hts (jgS (jWr_34 _ (List.mem_of_getElem? (i := 3) rfl)) (jWr_34 _ (List.mem_of_getElem? (i := 4) rfl)) (jWr_34 _ (List.mem_of_getElem? (i := 5) rfl)) (jWr_34 _ (List.mem_of_getElem? (i := 6) rfl))) rfl rfl rfl (by decide +kernel) ⟨by rw [← hR]; exact Nat.le_of_ble_eq_true rfl, by rw [← hR]; exact Nat.le_of_ble_eq_true rfl⟩) ⟨fun a U g mk q => by obtain ⟨q0, q1, q2, qK, q10, q11⟩ := q; exact ⟨q0, q1, q2, jG.calling g mk a qK, q10, q11⟩, fun U hU hW => ⟨rfl, hU, hh_5.2.1, hG.step hW hU hh_5.1, jP.nil, by first | omega | (refine ⟨?_, ?_, ?_, ?_, ?_, ?_⟩ <;> (first | omega | rfl | assumption | decide | exact Or.inl rfl | exact Or.inr rfl | (simp only; omega)))⟩⟩ rfl rfl hl.1 rfl (lv_room (Nat.le_of_ble_eq_true rfl)) dJx4a65c_grow_92f84_27 ⟨by rw [hRc]; show _ + 0 ≤ _; omega, by rw [hRs]; show _ + 0 ≤ _; omega⟩) hh_5.1 (fun q _ h => h) (fun q h => h) (fun r_11 u_10 t_10 H_10 locs_10 ht_10 hvm_10 hr_11 hb_10 hz_10 hk_10 hS_10 => ?_)
      rw [ht_10] at hb_10
      obtain ⟨hb_101, hb_102, hb_103, hb_104, hb_105⟩ := hb_10
      have hh_10 : jSt (dC, dI) B base G0 G0 EJx4a65c_grow_92f84L2 s.heap 0 0 [(r0, 1, 1, .ref ed), (r0, 1, 2, .int lz)] [] [([(222, 0)], jQc dC dI (ca 9) ed n_ed lf_1), (jFl, jLs dC dI ca G0 3 (some r0))] H_10 locs_10 := ((hh_5.call hb_101 hb_102 hb_103 hb_104 hS_10 rfl (L1 := [(r0, 1, 1, .ref ed), (r0, 1, 2, .int lz)]) [0, 1] rfl rfl (M1 := []) [] rfl rfl (I1 := [([(222, 0)], jQc dC dI (ca 9) ed n_ed lf_1), (jFl, jLs dC dI ca G0 3 (some r0))]) [0, 1] rfl rfl).more hb_105)
      clear hh_5 ht_10 hvm_10 hz_10 hk_10 hS_10 hb_101 hb_102 hb_103 hb_104 hb_105
      obtain ⟨hr_11_0, hr_11_1, hr_11_2⟩ := hr_11
      refine lv_istore_n (lv' := [(3, .int r_11), (2, .int z_6), (0, .ref r0), (1, .int a1)]) hx hb dJx4a65c_grow_92f84_30 rfl hl (by decide) rfl (fun ls hl => ?_)
      refine lv_aload_n hx hb dJx4a65c_grow_92f84_31 rfl (lv_at hl 2 rfl) ?_
      refine lv_aload_n hx hb dJx4a65c_grow_92f84_32 rfl (lv_at hl 2 rfl) ?_
      refine j7_read hx hb hown hK (C := RJx4a65c) (T := TJx4a65c) (N := 3) rfl hly_1_1 hlk_9 (hh_10.at 0 rfl) dJx4a65c_grow_92f84_33 ?_
      refine lv_iload_n hx hb dJx4a65c_grow_92f84_36 rfl (lv_at hl 0 rfl) ?_
      have hsz_12 := hh_10.2.2.2.2.2.1
      have htt_12 := hh_10.2.2.2.2.2.2.1
      refine W.room (fun hrc_12 hrs_12 => ?_)
      refine j_callx (A0 := jA base) (H0 := s.heap) (va_runS (As := [.ref ed, .int r_11]) (rest := [.ref r0]) ⟨hx, hb, hml, hown, hts⟩ (uJ7_copyOf_1904cL2 l dC dI ca base B hB hAp hB10 hB222 G0 H_10 ed r_11 n_ed lf_1 LC LS) (va_cwS 2 hts (jgS (jWr_34 _ (List.mem_of_getElem? (i := 12) rfl)) (jWr_34 _ (List.mem_of_getElem? (i := 13) rfl)) (jWr_16 _ (List.mem_of_getElem? (i := 7) rfl)) (jWr_34 _ (List.mem_of_getElem? (i := 14) rfl))) rfl rfl rfl (by decide +kernel) ⟨by rw [← hR]; exact Nat.le_of_ble_eq_true rfl, by rw [← hR]; exact Nat.le_of_ble_eq_true rfl⟩) ⟨fun a U g mk q => by obtain ⟨q0, q1, q2, qK, q10, q11, q12, q13, q14⟩ := q; exact ⟨q0, q1, q2, jG.calling g mk a qK, (jK7.calling g mk a q10), q11, q12, q13, q14⟩, fun U hU hW => ⟨rfl, hU, hh_10.2.1, hG.step hW hU hh_10.1, (hK7.step hW hU hh_10.1), hg_ed, jP.nil, (hh_10.2.2.2.2.2.2.2.2.sub (L1 := [([(222, 0)], jQc dC dI (ca 9) ed n_ed lf_1)]) [0] rfl), by first | omega | (refine ⟨?_, ?_, ?_⟩ <;> (first | omega | rfl | assumption | decide | exact Or.inl rfl | exact Or.inr rfl | (simp only; omega)))⟩⟩ rfl rfl hl.1 rfl (lv_room (Nat.le_of_ble_eq_true rfl)) dJx4a65c_grow_92f84_37 ⟨by rw [hRc]; omega, by rw [hRs]; omega⟩) hh_10.1 (fun q _ h => h) (fun q h => h) (fun r_13 u_12 t_12 H_12 locs_12 ht_12 hvm_12 hr_13 hb_12 hz_12 hk_12 hS_12 => ?_)
      rw [ht_12] at hb_12
      obtain ⟨x_ret_12, m_ret_12, G_12⟩ := u_12
      simp only at hb_12
      obtain ⟨⟨hb_121, hb_122, hb_123, hb_124, hb_125, hb_126⟩, hN_12, hbQ_12, hbK_12⟩ := hb_12
      have hh_12 : jSt (dC, dI) B base G0 G_12 EJx4a65c_grow_92f84L2 s.heap (0 + (1)) (0 + (m_ret_12)) [(r0, 1, 1, .ref ed), (r0, 1, 2, .int lz)] [] [([(222, 0)], jQc dC dI (ca 9) ed n_ed lf_1), (jFl, jLs dC dI ca G0 3 (some r0))] H_12 locs_12 := (hh_10.callG hb_121 hb_122 hb_123 hb_124 hb_125 hS_12 rfl (L1 := [(r0, 1, 1, .ref ed), (r0, 1, 2, .int lz)]) [0, 1] rfl rfl (M1 := []) [] rfl rfl (I1 := [([(222, 0)], jQc dC dI (ca 9) ed n_ed lf_1), (jFl, jLs dC dI ca G0 3 (some r0))]) [0, 1] rfl rfl).more hb_126
      have hNn_12 : (jNk [0, 1, 2, 3, 4, 5, 6, 7, 8, 9, 10, 11, 12, 13, 14, 15, 16]) G0 G_12 := (jNk.rf).tr hN_12
      have hg_14 := hb_122 _ _ hg_r0
      have hg_15 := hb_122 _ _ hg_ed
      have hd_17 := jLs.grow (hh_12.iv 1 rfl) hb_122 hN_12 (by decide)
      have hh_18 := hh_12.sub (L1 := [(r0, 1, 1, .ref ed), (r0, 1, 2, .int lz)]) [0, 1] rfl (M1 := []) [] rfl (I1 := [([(222, 0)], jQc dC dI (ca 9) ed n_ed lf_1)]) [0] rfl
      clear hh_12
      have hh_19 := hh_18.addI (jLs.ie hd_17)
      clear hh_18
      obtain ⟨rfl, hr_13, hr_13n, hr_13p⟩ := hr_13
      try simp only at hr_13p
      have hgr_12 : G_12 x_ret_12 = some (222, m_ret_12) := by obtain ⟨y9, e9, h9⟩ := hr_13; cases e9; exact h9
      have hsy_12 : s.heap.size ≤ x_ret_12 := Nat.le_trans hh_10.1.1 hr_13n.le
      obtain ⟨fr_12, hqa_12, hqr_12⟩ := hbQ_12
      have hh_20 := hh_19.addI (jQc.ie hqa_12 hgr_12 (by decide) (by decide))
      clear hh_19
      refine lv_dup_x1 hx hb dJx4a65c_grow_92f84_40 rfl rfl ?_
      have hd_22 := hh_20.iv 1 rfl
      have hh_23 := hh_20.sub (L1 := [(r0, 1, 1, .ref ed), (r0, 1, 2, .int lz)]) [0, 1] rfl (M1 := []) [] rfl (I1 := [([(222, 0)], jQc dC dI (ca 9) x_ret_12 m_ret_12 fr_12), ([(222, 0)], jQc dC dI (ca 9) ed n_ed lf_1)]) [0, 2] rfl
      clear hh_20
      refine j7_putX hx hb hown hK hh_23 hB hAp hB1 (C := RJx4a65c) (T := TJx4a65c) (N := 3) rfl (by decide) hg_14 (i := 1) (by decide) hly_1_1 rfl hlk_9 rfl (ty := (.array (.object "java/lang/Object"))) (v := .ref x_ret_12) (by decide +kernel) rfl rfl (⟨_, rfl⟩) rfl (L1 := [(r0, 1, 2, .int lz)]) [1] rfl rfl rfl dJx4a65c_grow_92f84_41 (fun H_21 locs_21 hr_21 hh_21 => ?_)
      clear hh_23
      have hd_22n := jLs.fld hd_22 hg_14 hr_21
      have hh_24 := hh_21.addI (jLs.ie hd_22n)
      clear hh_21
      clear hd_22 hd_22n hr_21
      have hd_25 := jLs.full (hh_24.iv 0 rfl) hg_14 ⟨_, _, hh_24.at 1 rfl, hh_24.at 0 rfl, ⟨by omega, (show _ ≤ (12 : Int) by omega)⟩, Or.inr ⟨_, _, hgr_12, by omega, by omega, hh_24.iv 1 rfl, (fun i h9 => by rw [hqr_12 i (by omega)]; exact hl8_1 i (by omega))⟩⟩
      have hh_26 := hh_24.sub (L1 := [(r0, 1, 1, .ref x_ret_12), (r0, 1, 2, .int lz)]) [0, 1] rfl (M1 := []) [] rfl (I1 := [([(222, 0)], jQc dC dI (ca 9) x_ret_12 m_ret_12 fr_12), ([(222, 0)], jQc dC dI (ca 9) ed n_ed lf_1)]) [1, 2] rfl
      clear hh_24
      have hh_27 := hh_26.addI (jLs.ie hd_25)
      clear hh_26
      have hsz_28 := hh_27.2.2.2.2.2.1
      have htt_28 := hh_27.2.2.2.2.2.2.1
      refine W.room (fun hrc_28 hrs_28 => ?_)
      refine W.widen (k := LC - s.heap.size) (n := LS - jTot s.heap) (by omega) (by omega) ?_
      rw [hQ]
      exact W.aret (v := .ref x_ret_12) hx hb hr (Or.inr ⟨_, rfl⟩) (Or.inr ⟨_, rfl⟩) (fun t ht hW => ⟨⟨.ref x_ret_12, (x_ret_12, m_ret_12, G_12), rfl, ⟨rfl, by (try dsimp only); exact ⟨(by first | omega | rfl | assumption | fail), (by first | omega | rfl | assumption | fail)⟩⟩, ⟨hh_27.ra (by first | omega | (simp only; omega)) (by first | omega | (simp only; omega)) (M1 := [(r0, 1, 1, .ref x_ret_12)]) [0] rfl ht, hgr_12, hNn_12, by rw [ht]; exact hh_27.2.2.2.2.2.2.2.2.sub (L1 := [(jFl, jLs dC dI ca G_12 3 none)]) [0] rfl⟩⟩, by rw [ht]; try exact hh_27.1.1, fun q h9 hq => by rw [ht]; try exact hh_27.1.2.1 q h9 hq⟩) hh_27.1.2.2 dJx4a65c_grow_92f84_44
    · skip
      have c_7' : z_6.toInt ≤ 0 := jb_gt_n (rfl) ((by decide)) c_7
      exact absurd c_7' (by omega)
set_option maxHeartbeats 4000000 in
set_option maxRecDepth 20000 in
theorem uJx4a65c_grow_d5877E2 (l : Launch) (dC : Nat → ClassId) (dI : Nat → Nat → Nat) (ca : Nat → ClassId) (base : Nat) (B : jF) (hB : jBok B) (hAp : jAp (dC, dI)) (hB1 : ∀ n G a H, B 1 n G a H ↔ jOb (dC, dI) 1 3 (F1 n G) a H) (hB10 : ∀ n G a H, B 10 n G a H ↔ jOb (dC, dI) 10 5 (F10 n G) a H) (hB222 : ∀ n G a H, B 222 n G a H ↔ jAq (dC, dI) (ca 9) (jQn 10 0) n G a H) (G0 : jT) (H0 : Heap) (r0 : Nat) (lz : Int32) (LC LS : Nat) : Met l yJx4a65c_grow_d5877 (jw yJx4a65c_grow_d5877 cJx4a65c_grow_d5877 1 (some (.array (.object "java/lang/Object")))) ({ frames := 4, cells := LC - H0.size, slots := LS - jTot H0, locals := 128 }) (va_Pc [.ref r0] (fun U => U.heap = H0 ∧ jX B base G0 [] H0 ∧ jG dC dI ca base U ∧ jK7 dC dI ca base U ∧ G0 r0 = some (1, 2) ∧ jP (dC, dI) G0 H0 [(r0, 1, 1, .ref (dI 99 0)), (r0, 1, 2, .int lz)] ∧ jIs (dC, dI) G0 H0 [(jFl, jLs dC dI ca G0 3 none)] ∧ H0.size + 1 ≤ LC ∧ jTot H0 + 40 ≤ LS ∧ lz.toInt = 0)) (jQx (S := Nat × Nat × jT) (fun v u => v = .ref u.1 ∧ u.2.1 = 10) (fun u t => jRa (dC, dI) B base G0 u.2.2 EJx4a65c_grow_d5877E2 H0 (1) (40) [(r0, 1, 1, .ref u.1)] t.heap ∧ u.2.2 u.1 = some (222, u.2.1) ∧ (jNk [0, 1, 2, 3, 4, 5, 6, 7, 8, 9, 10, 11, 12, 13, 14, 15, 16]) G0 u.2.2 ∧ jIs (dC, dI) u.2.2 t.heap [(jFl, jLs dC dI ca u.2.2 3 none)]) (jA base)) (LC - H0.size) (LS - jTot H0) (jA base) := by
  refine Met.ofW (cc := cJx4a65c_grow_d5877) (maxL := 1) (ret := (some (.array (.object "java/lang/Object")))) (by decide) rfl ?_
  intro p e s m args below meth c s₁ Bd hml hv
  obtain ⟨rfl, hH0, hX, hG, hK7, hg_r0, hP0, hI0, hLC0, hLS0, hp0⟩ := hv
  have hK := hG.1
  have hx := Bd.exec
  have hb := Bd.bytes
  have hr := Bd.returns
  have hts := atoms_spec (ws := (jw yJx4a65c_grow_d5877 cJx4a65c_grow_d5877 1 (some (.array (.object "java/lang/Object"))))) Bd.pre
  have htw : ∀ w ∈ jWl, w.before _ s = true := fun w h => hts w (List.mem_cons_of_mem _ h)
  have hown : s.vm.findClass RJx4a65c = some m.cls := findClass_of_methodNamed Bd.named
  have hlocks := Bd.notSynchronized
  obtain ⟨Q, hQ⟩ : ∃ Q, Q = MQ below (jQx (S := Nat × Nat × jT) (fun v u => v = .ref u.1 ∧ u.2.1 = 10) (fun u t => jRa (dC, dI) B base G0 u.2.2 EJx4a65c_grow_d5877E2 H0 (1) (40) [(r0, 1, 1, .ref u.1)] t.heap ∧ u.2.2 u.1 = some (222, u.2.1) ∧ (jNk [0, 1, 2, 3, 4, 5, 6, 7, 8, 9, 10, 11, 12, 13, 14, 15, 16]) G0 u.2.2 ∧ jIs (dC, dI) u.2.2 t.heap [(jFl, jLs dC dI ca u.2.2 3 none)]) (jA base)) ([.ref r0] : List Value).toArray s (LC - H0.size) (LS - jTot H0) (jA base) := ⟨_, rfl⟩
  rw [← hQ]
  have hl := lv_entry ([.ref r0]) (n := 1) (Nat.le_of_ble_eq_true rfl)
  rw [lg_entry_eq]
  generalize (lg_sl ([.ref r0]) ++ List.replicate (1 - (lg_sl ([.ref r0])).length) Slot.unset).toArray = ls at hl ⊢
  have hl : lv_has ls 1 [(0, .ref r0)] := hl
  generalize hR : (headSpec (jw yJx4a65c_grow_d5877 cJx4a65c_grow_d5877 1 (some (.array (.object "java/lang/Object")))) ({ frames := 4, cells := LC - H0.size, slots := LS - jTot H0, locals := 128 })).room = R
  subst hH0
  have hh : jSt (dC, dI) B base G0 G0 EJx4a65c_grow_d5877E2 s.heap 0 0 [(r0, 1, 1, .ref (dI 99 0)), (r0, 1, 2, .int lz)] [] [(jFl, jLs dC dI ca G0 3 none)] s.heap [] := jSt.start hX hP0 jMc.nil hI0
  clear hX hP0
  have hk0 : (0 : Int32).toInt = 0 := by decide
  have hk1 : (1 : Int32).toInt = 1 := by decide
  have hly_1_2 := htw (u_lay RJx4a65c TJx4a65c 2) (jWc_wsJx4a65c0 _ (u_in_lay (by decide)))
  have hlk_48 := (htw (.fieldLink RJx4a65c 48 "java/util/ArrayList" "size" "I") (jWr_28 _ (List.mem_of_getElem? (i := 2) rfl)))
  have hbs : base ≤ s.heap.size := Nat.le_of_lt (Nat.lt_of_le_of_lt (hh.ab hg_r0).1 (hh.ab hg_r0).2)
  have hRc : R.cells = LC - s.heap.size := by rw [← hR]; rfl
  have hRs : R.slots = LS - jTot s.heap := by rw [← hR]; rfl
  refine lv_aload_n hx hb dJx4a65c_grow_d5877_0 rfl (lv_at hl 0 rfl) ?_
  refine lv_aload_n hx hb dJx4a65c_grow_d5877_1 rfl (lv_at hl 0 rfl) ?_
  refine j7_read hx hb hown hK (C := RJx4a65c) (T := TJx4a65c) (N := 3) rfl hly_1_2 hlk_48 (hh.at 1 rfl) dJx4a65c_grow_d5877_2 ?_
  refine lv_iconst (v := 1) hx hb dJx4a65c_grow_d5877_5 (by decide) ?_
  refine lv_iadd hx hb dJx4a65c_grow_d5877_6 ?_
  refine lv_topi (fun z_1 ez_1 => ?_)
  have hz_1 : z_1.toInt = lz.toInt + 1 := by rw [ez_1]; exact jb_iadd2 (rfl) ((by decide)) (by omega)
  have hsz_2 := hh.2.2.2.2.2.1
  have htt_2 := hh.2.2.2.2.2.2.1
  refine W.room (fun hrc_2 hrs_2 => ?_)
  refine j_callx (A0 := jA base) (H0 := s.heap) (va_runV (As := [.int z_1]) (rest := []) ⟨hx, hb, hml, hown, hts⟩ (uJx4a65c_grow_92f84E2 l dC dI ca base B hB hAp hB1 hB10 hB222 G0 s.heap r0 z_1 lz LC LS) (cwV 1 hts (jgV (jWr_33 _ (List.mem_of_getElem? (i := 21) rfl)) (jWr_33 _ (List.mem_of_getElem? (i := 22) rfl)) (jWr_33 _ (List.mem_of_getElem? (i := 23) rfl)) (jWr_2 _ (List.mem_of_getElem? (i := 13) rfl)) (jWr_34 _ (List.mem_of_getElem? (i := 0) rfl))) rfl rfl rfl (by decide +kernel) ⟨by rw [← hR]; exact Nat.le_of_ble_eq_true rfl, by rw [← hR]; exact Nat.le_of_ble_eq_true rfl⟩) ⟨fun a U g mk q => by obtain ⟨q0, q1, q2, qK, q10, q11, q12, q13, q14⟩ := q; exact ⟨q0, q1, q2, jG.calling g mk a qK, (jK7.calling g mk a q10), q11, q12, q13, q14⟩, hh.recv (C := RJx4a65c) (T := TJx4a65c) (N := 3) hB1 rfl (by decide) hg_r0 hK, fun U hU hW => ⟨rfl, hU, hh.2.1, hG.step hW hU hh.1, (hK7.step hW hU hh.1), hg_r0, (hh.2.2.1.sub (L1 := [(r0, 1, 1, .ref (dI 99 0)), (r0, 1, 2, .int lz)]) [0, 1] rfl), (hh.2.2.2.2.2.2.2.2.sub (L1 := [(jFl, jLs dC dI ca G0 3 none)]) [0] rfl), by first | omega | (refine ⟨?_, ?_⟩ <;> (first | omega | rfl | assumption | decide | exact Or.inl rfl | exact Or.inr rfl | (simp only; omega)))⟩⟩ rfl rfl hl.1 rfl (lv_room (Nat.le_of_ble_eq_true rfl)) dJx4a65c_grow_d5877_7 ⟨by rw [hRc]; omega, by rw [hRs]; omega⟩) hh.1 (fun q _ h => h) (fun q h => h) (fun r_3 u_2 t_2 H_2 locs_2 ht_2 hvm_2 hr_3 hb_2 hz_2 hk_2 hS_2 => ?_)
  rw [ht_2] at hb_2
  obtain ⟨qa_2, m_qa_2, G_2⟩ := u_2
  simp only at hb_2
  obtain ⟨⟨hb_21, hb_22, hb_23, hb_24, hb_25, hb_26⟩, hgq_2_0, hN_2, hbE_2⟩ := hb_2
  have hh_2 : jSt (dC, dI) B base G0 G_2 EJx4a65c_grow_d5877E2 s.heap (0 + (1)) (0 + (40)) [(r0, 1, 1, .ref qa_2), (r0, 1, 2, .int lz)] [] [] H_2 locs_2 := (hh.callG hb_21 hb_22 hb_23 hb_24 hb_25 hS_2 rfl (L1 := [(r0, 1, 2, .int lz)]) [1] rfl rfl (M1 := []) [] rfl rfl (I1 := []) [] rfl rfl).more hb_26
  have hNn_2 : (jNk [0, 1, 2, 3, 4, 5, 6, 7, 8, 9, 10, 11, 12, 13, 14, 15, 16]) G0 G_2 := (jNk.rf).tr hN_2
  have hg_4 := hb_22 _ _ hg_r0
  have hh_5 := hh_2.addIs hbE_2
  obtain ⟨rfl, hr_3p⟩ := hr_3
  try simp only at hr_3p
  have hsz_6 := hh_5.2.2.2.2.2.1
  have htt_6 := hh_5.2.2.2.2.2.2.1
  refine W.room (fun hrc_6 hrs_6 => ?_)
  refine W.widen (k := LC - s.heap.size) (n := LS - jTot s.heap) (by omega) (by omega) ?_
  rw [hQ]
  exact W.aret (v := .ref qa_2) hx hb hr (Or.inr ⟨_, rfl⟩) (Or.inr ⟨_, rfl⟩) (fun t ht hW => ⟨⟨.ref qa_2, (qa_2, m_qa_2, G_2), rfl, ⟨rfl, by (try dsimp only); first | omega | rfl | assumption | fail⟩, ⟨hh_5.ra (by first | omega | (simp only; omega)) (by first | omega | (simp only; omega)) (M1 := [(r0, 1, 1, .ref qa_2)]) [0] rfl ht, hgq_2_0, hNn_2, by rw [ht]; exact hh_5.2.2.2.2.2.2.2.2.sub (L1 := [(jFl, jLs dC dI ca G_2 3 none)]) [0] rfl⟩⟩, by rw [ht]; try exact hh_5.1.1, fun q h9 hq => by rw [ht]; try exact hh_5.1.2.1 q h9 hq⟩) hh_5.1.2.2 dJx4a65c_grow_d5877_10
set_option maxHeartbeats 4000000 in
set_option maxRecDepth 20000 in
theorem uJx4a65c_grow_d5877L2 (l : Launch) (dC : Nat → ClassId) (dI : Nat → Nat → Nat) (ca : Nat → ClassId) (base : Nat) (B : jF) (hB : jBok B) (hAp : jAp (dC, dI)) (hB1 : ∀ n G a H, B 1 n G a H ↔ jOb (dC, dI) 1 3 (F1 n G) a H) (hB10 : ∀ n G a H, B 10 n G a H ↔ jOb (dC, dI) 10 5 (F10 n G) a H) (hB222 : ∀ n G a H, B 222 n G a H ↔ jAq (dC, dI) (ca 9) (jQn 10 0) n G a H) (G0 : jT) (H0 : Heap) (r0 : Nat) (ed : Nat) (n_ed : Nat) (lz : Int32) (LC LS : Nat) : Met l yJx4a65c_grow_d5877 (jw yJx4a65c_grow_d5877 cJx4a65c_grow_d5877 1 (some (.array (.object "java/lang/Object")))) ({ frames := 4, cells := LC - H0.size, slots := LS - jTot H0, locals := 128 }) (va_Pc [.ref r0] (fun U => U.heap = H0 ∧ jX B base G0 [] H0 ∧ jG dC dI ca base U ∧ jK7 dC dI ca base U ∧ G0 r0 = some (1, 2) ∧ G0 ed = some (222, n_ed) ∧ jP (dC, dI) G0 H0 [(r0, 1, 1, .ref ed), (r0, 1, 2, .int lz)] ∧ jIs (dC, dI) G0 H0 [(jFl, jLs dC dI ca G0 3 none)] ∧ H0.size + 1 ≤ LC ∧ jTot H0 + 40 ≤ LS ∧ lz.toInt = n_ed ∧ lz.toInt ≤ 24)) (jQx (S := Nat × Nat × jT) (fun v u => v = .ref u.1 ∧ lz.toInt + 1 ≤ u.2.1 ∧ u.2.1 ≤ 40) (fun u t => jRa (dC, dI) B base G0 u.2.2 EJx4a65c_grow_d5877L2 H0 (1) (40) [(r0, 1, 1, .ref u.1)] t.heap ∧ u.2.2 u.1 = some (222, u.2.1) ∧ (jNk [0, 1, 2, 3, 4, 5, 6, 7, 8, 9, 10, 11, 12, 13, 14, 15, 16]) G0 u.2.2 ∧ jIs (dC, dI) u.2.2 t.heap [(jFl, jLs dC dI ca u.2.2 3 none)]) (jA base)) (LC - H0.size) (LS - jTot H0) (jA base) := by
  refine Met.ofW (cc := cJx4a65c_grow_d5877) (maxL := 1) (ret := (some (.array (.object "java/lang/Object")))) (by decide) rfl ?_
  intro p e s m args below meth c s₁ Bd hml hv
  obtain ⟨rfl, hH0, hX, hG, hK7, hg_r0, hg_ed, hP0, hI0, hLC0, hLS0, hp0, hp1⟩ := hv
  have hK := hG.1
  have hx := Bd.exec
  have hb := Bd.bytes
  have hr := Bd.returns
  have hts := atoms_spec (ws := (jw yJx4a65c_grow_d5877 cJx4a65c_grow_d5877 1 (some (.array (.object "java/lang/Object"))))) Bd.pre
  have htw : ∀ w ∈ jWl, w.before _ s = true := fun w h => hts w (List.mem_cons_of_mem _ h)
  have hown : s.vm.findClass RJx4a65c = some m.cls := findClass_of_methodNamed Bd.named
  have hlocks := Bd.notSynchronized
  obtain ⟨Q, hQ⟩ : ∃ Q, Q = MQ below (jQx (S := Nat × Nat × jT) (fun v u => v = .ref u.1 ∧ lz.toInt + 1 ≤ u.2.1 ∧ u.2.1 ≤ 40) (fun u t => jRa (dC, dI) B base G0 u.2.2 EJx4a65c_grow_d5877L2 H0 (1) (40) [(r0, 1, 1, .ref u.1)] t.heap ∧ u.2.2 u.1 = some (222, u.2.1) ∧ (jNk [0, 1, 2, 3, 4, 5, 6, 7, 8, 9, 10, 11, 12, 13, 14, 15, 16]) G0 u.2.2 ∧ jIs (dC, dI) u.2.2 t.heap [(jFl, jLs dC dI ca u.2.2 3 none)]) (jA base)) ([.ref r0] : List Value).toArray s (LC - H0.size) (LS - jTot H0) (jA base) := ⟨_, rfl⟩
  rw [← hQ]
  have hl := lv_entry ([.ref r0]) (n := 1) (Nat.le_of_ble_eq_true rfl)
  rw [lg_entry_eq]
  generalize (lg_sl ([.ref r0]) ++ List.replicate (1 - (lg_sl ([.ref r0])).length) Slot.unset).toArray = ls at hl ⊢
  have hl : lv_has ls 1 [(0, .ref r0)] := hl
  generalize hR : (headSpec (jw yJx4a65c_grow_d5877 cJx4a65c_grow_d5877 1 (some (.array (.object "java/lang/Object")))) ({ frames := 4, cells := LC - H0.size, slots := LS - jTot H0, locals := 128 })).room = R
  subst hH0
  have hh : jSt (dC, dI) B base G0 G0 EJx4a65c_grow_d5877L2 s.heap 0 0 [(r0, 1, 1, .ref ed), (r0, 1, 2, .int lz)] [] [(jFl, jLs dC dI ca G0 3 none)] s.heap [] := jSt.start hX hP0 jMc.nil hI0
  clear hX hP0
  have hk0 : (0 : Int32).toInt = 0 := by decide
  have hk1 : (1 : Int32).toInt = 1 := by decide
  have hly_1_2 := htw (u_lay RJx4a65c TJx4a65c 2) (jWc_wsJx4a65c0 _ (u_in_lay (by decide)))
  have hlk_48 := (htw (.fieldLink RJx4a65c 48 "java/util/ArrayList" "size" "I") (jWr_28 _ (List.mem_of_getElem? (i := 2) rfl)))
  have hbs : base ≤ s.heap.size := Nat.le_of_lt (Nat.lt_of_le_of_lt (hh.ab hg_r0).1 (hh.ab hg_r0).2)
  have hRc : R.cells = LC - s.heap.size := by rw [← hR]; rfl
  have hRs : R.slots = LS - jTot s.heap := by rw [← hR]; rfl
  refine lv_aload_n hx hb dJx4a65c_grow_d5877_0 rfl (lv_at hl 0 rfl) ?_
  refine lv_aload_n hx hb dJx4a65c_grow_d5877_1 rfl (lv_at hl 0 rfl) ?_
  refine j7_read hx hb hown hK (C := RJx4a65c) (T := TJx4a65c) (N := 3) rfl hly_1_2 hlk_48 (hh.at 1 rfl) dJx4a65c_grow_d5877_2 ?_
  refine lv_iconst (v := 1) hx hb dJx4a65c_grow_d5877_5 (by decide) ?_
  refine lv_iadd hx hb dJx4a65c_grow_d5877_6 ?_
  refine lv_topi (fun z_1 ez_1 => ?_)
  have hz_1 : z_1.toInt = lz.toInt + 1 := by rw [ez_1]; exact jb_iadd2 (rfl) ((by decide)) (by omega)
  have hsz_2 := hh.2.2.2.2.2.1
  have htt_2 := hh.2.2.2.2.2.2.1
  refine W.room (fun hrc_2 hrs_2 => ?_)
  refine j_callx (A0 := jA base) (H0 := s.heap) (va_runV (As := [.int z_1]) (rest := []) ⟨hx, hb, hml, hown, hts⟩ (uJx4a65c_grow_92f84L2 l dC dI ca base B hB hAp hB1 hB10 hB222 G0 s.heap r0 z_1 ed n_ed lz LC LS) (cwV 1 hts (jgV (jWr_33 _ (List.mem_of_getElem? (i := 21) rfl)) (jWr_33 _ (List.mem_of_getElem? (i := 22) rfl)) (jWr_33 _ (List.mem_of_getElem? (i := 23) rfl)) (jWr_2 _ (List.mem_of_getElem? (i := 13) rfl)) (jWr_34 _ (List.mem_of_getElem? (i := 0) rfl))) rfl rfl rfl (by decide +kernel) ⟨by rw [← hR]; exact Nat.le_of_ble_eq_true rfl, by rw [← hR]; exact Nat.le_of_ble_eq_true rfl⟩) ⟨fun a U g mk q => by obtain ⟨q0, q1, q2, qK, q10, q11, q12, q13, q14, q15⟩ := q; exact ⟨q0, q1, q2, jG.calling g mk a qK, (jK7.calling g mk a q10), q11, q12, q13, q14, q15⟩, hh.recv (C := RJx4a65c) (T := TJx4a65c) (N := 3) hB1 rfl (by decide) hg_r0 hK, fun U hU hW => ⟨rfl, hU, hh.2.1, hG.step hW hU hh.1, (hK7.step hW hU hh.1), hg_r0, hg_ed, (hh.2.2.1.sub (L1 := [(r0, 1, 1, .ref ed), (r0, 1, 2, .int lz)]) [0, 1] rfl), (hh.2.2.2.2.2.2.2.2.sub (L1 := [(jFl, jLs dC dI ca G0 3 none)]) [0] rfl), by first | omega | (refine ⟨?_, ?_, ?_⟩ <;> (first | omega | rfl | assumption | decide | exact Or.inl rfl | exact Or.inr rfl | (simp only; omega)))⟩⟩ rfl rfl hl.1 rfl (lv_room (Nat.le_of_ble_eq_true rfl)) dJx4a65c_grow_d5877_7 ⟨by rw [hRc]; omega, by rw [hRs]; omega⟩) hh.1 (fun q _ h => h) (fun q h => h) (fun r_3 u_2 t_2 H_2 locs_2 ht_2 hvm_2 hr_3 hb_2 hz_2 hk_2 hS_2 => ?_)
  rw [ht_2] at hb_2
  obtain ⟨qa_2, m_qa_2, G_2⟩ := u_2
  simp only at hb_2
  obtain ⟨⟨hb_21, hb_22, hb_23, hb_24, hb_25, hb_26⟩, hgq_2_0, hN_2, hbE_2⟩ := hb_2
  have hh_2 : jSt (dC, dI) B base G0 G_2 EJx4a65c_grow_d5877L2 s.heap (0 + (1)) (0 + (40)) [(r0, 1, 1, .ref qa_2), (r0, 1, 2, .int lz)] [] [] H_2 locs_2 := (hh.callG hb_21 hb_22 hb_23 hb_24 hb_25 hS_2 rfl (L1 := [(r0, 1, 2, .int lz)]) [1] rfl rfl (M1 := []) [] rfl rfl (I1 := []) [] rfl rfl).more hb_26
  have hNn_2 : (jNk [0, 1, 2, 3, 4, 5, 6, 7, 8, 9, 10, 11, 12, 13, 14, 15, 16]) G0 G_2 := (jNk.rf).tr hN_2
  have hg_4 := hb_22 _ _ hg_r0
  have hh_5 := hh_2.addIs hbE_2
  obtain ⟨rfl, hr_3p⟩ := hr_3
  try simp only at hr_3p
  obtain ⟨hr_3p_0, hr_3p_1⟩ := hr_3p
  have hsz_6 := hh_5.2.2.2.2.2.1
  have htt_6 := hh_5.2.2.2.2.2.2.1
  refine W.room (fun hrc_6 hrs_6 => ?_)
  refine W.widen (k := LC - s.heap.size) (n := LS - jTot s.heap) (by omega) (by omega) ?_
  rw [hQ]
  exact W.aret (v := .ref qa_2) hx hb hr (Or.inr ⟨_, rfl⟩) (Or.inr ⟨_, rfl⟩) (fun t ht hW => ⟨⟨.ref qa_2, (qa_2, m_qa_2, G_2), rfl, ⟨rfl, by (try dsimp only); exact ⟨(by first | omega | rfl | assumption | fail), (by first | omega | rfl | assumption | fail)⟩⟩, ⟨hh_5.ra (by first | omega | (simp only; omega)) (by first | omega | (simp only; omega)) (M1 := [(r0, 1, 1, .ref qa_2)]) [0] rfl ht, hgq_2_0, hNn_2, by rw [ht]; exact hh_5.2.2.2.2.2.2.2.2.sub (L1 := [(jFl, jLs dC dI ca G_2 3 none)]) [0] rfl⟩⟩, by rw [ht]; try exact hh_5.1.1, fun q h9 hq => by rw [ht]; try exact hh_5.1.2.1 q h9 hq⟩) hh_5.1.2.2 dJx4a65c_grow_d5877_10
set_option maxHeartbeats 4000000 in
set_option maxRecDepth 20000 in
theorem uJx4a65c_add_72be8E2 (l : Launch) (dC : Nat → ClassId) (dI : Nat → Nat → Nat) (ca : Nat → ClassId) (base : Nat) (B : jF) (hB : jBok B) (hAp : jAp (dC, dI)) (hB1 : ∀ n G a H, B 1 n G a H ↔ jOb (dC, dI) 1 3 (F1 n G) a H) (hB10 : ∀ n G a H, B 10 n G a H ↔ jOb (dC, dI) 10 5 (F10 n G) a H) (hB222 : ∀ n G a H, B 222 n G a H ↔ jAq (dC, dI) (ca 9) (jQn 10 0) n G a H) (G0 : jT) (H0 : Heap) (r0 : Nat) (r1 : Nat) (a3 : Int32) (lz : Int32) (LC LS : Nat) : Met l yJx4a65c_add_72be8 (jw yJx4a65c_add_72be8 cJx4a65c_add_72be8 4 none) ({ frames := 5, cells := LC - H0.size, slots := LS - jTot H0, locals := 148 }) (va_Pc [.ref r0, .ref r1, .ref (dI 99 0), .int a3] (fun U => U.heap = H0 ∧ jX B base G0 [] H0 ∧ jG dC dI ca base U ∧ jK7 dC dI ca base U ∧ G0 r0 = some (1, 2) ∧ G0 r1 = some (10, 0) ∧ jP (dC, dI) G0 H0 [(r0, 1, 1, .ref (dI 99 0)), (r0, 1, 2, .int lz)] ∧ jIs (dC, dI) G0 H0 [(jFl, jLs dC dI ca G0 3 none)] ∧ H0.size + 1 ≤ LC ∧ jTot H0 + 40 ≤ LS ∧ a3.toInt = lz.toInt ∧ lz.toInt = 0)) (va_Qv (S := Int32 × jT) (fun u => u.1.toInt = lz.toInt + 1) (fun u t => jRa (dC, dI) B base G0 u.2 EJx4a65c_add_72be8E2 H0 (1) (40) [(r0, 1, 2, .int u.1)] t.heap ∧ (jNk [0, 1, 2, 3, 4, 5, 6, 7, 8, 9, 10, 11, 12, 13, 14, 15, 16]) G0 u.2 ∧ jIs (dC, dI) u.2 t.heap [(jFl, jLs dC dI ca u.2 3 none)]) (jA base)) (LC - H0.size) (LS - jTot H0) (jA base) := by
  refine Met.ofW (cc := cJx4a65c_add_72be8) (maxL := 4) (ret := none) (by decide) rfl ?_
  intro p e s m args below meth c s₁ Bd hml hv
  obtain ⟨rfl, hH0, hX, hG, hK7, hg_r0, hg_r1, hP0, hI0, hLC0, hLS0, hp0, hp1⟩ := hv
  have hK := hG.1
  have hx := Bd.exec
  have hb := Bd.bytes
  have hr := Bd.returns
  have hts := atoms_spec (ws := (jw yJx4a65c_add_72be8 cJx4a65c_add_72be8 4 none)) Bd.pre
  have htw : ∀ w ∈ jWl, w.before _ s = true := fun w h => hts w (List.mem_cons_of_mem _ h)
  have hown : s.vm.findClass RJx4a65c = some m.cls := findClass_of_methodNamed Bd.named
  have hlocks := Bd.notSynchronized
  obtain ⟨Q, hQ⟩ : ∃ Q, Q = MQ below (va_Qv (S := Int32 × jT) (fun u => u.1.toInt = lz.toInt + 1) (fun u t => jRa (dC, dI) B base G0 u.2 EJx4a65c_add_72be8E2 H0 (1) (40) [(r0, 1, 2, .int u.1)] t.heap ∧ (jNk [0, 1, 2, 3, 4, 5, 6, 7, 8, 9, 10, 11, 12, 13, 14, 15, 16]) G0 u.2 ∧ jIs (dC, dI) u.2 t.heap [(jFl, jLs dC dI ca u.2 3 none)]) (jA base)) ([.ref r0, .ref r1, .ref (dI 99 0), .int a3] : List Value).toArray s (LC - H0.size) (LS - jTot H0) (jA base) := ⟨_, rfl⟩
  rw [← hQ]
  have hl := lv_entry ([.ref r0, .ref r1, .ref (dI 99 0), .int a3]) (n := 4) (Nat.le_of_ble_eq_true rfl)
  rw [lg_entry_eq]
  generalize (lg_sl ([.ref r0, .ref r1, .ref (dI 99 0), .int a3]) ++ List.replicate (4 - (lg_sl ([.ref r0, .ref r1, .ref (dI 99 0), .int a3])).length) Slot.unset).toArray = ls at hl ⊢
  have hl : lv_has ls 4 [(0, .ref r0), (1, .ref r1), (2, .ref (dI 99 0)), (3, .int a3)] := hl
  generalize hR : (headSpec (jw yJx4a65c_add_72be8 cJx4a65c_add_72be8 4 none) ({ frames := 5, cells := LC - H0.size, slots := LS - jTot H0, locals := 148 })).room = R
  subst hH0
  have hh : jSt (dC, dI) B base G0 G0 EJx4a65c_add_72be8E2 s.heap 0 0 [(r0, 1, 1, .ref (dI 99 0)), (r0, 1, 2, .int lz)] [] [(jFl, jLs dC dI ca G0 3 none)] s.heap [] := jSt.start hX hP0 jMc.nil hI0
  clear hX hP0
  have hk0 : (0 : Int32).toInt = 0 := by decide
  have hk1 : (1 : Int32).toInt = 1 := by decide
  have hly_1_2 := htw (u_lay RJx4a65c TJx4a65c 2) (jWc_wsJx4a65c0 _ (u_in_lay (by decide)))
  have hlk_48 := (htw (.fieldLink RJx4a65c 48 "java/util/ArrayList" "size" "I") (jWr_28 _ (List.mem_of_getElem? (i := 2) rfl)))
  have hrg_a3 := jb_rng a3
  have hbs : base ≤ s.heap.size := Nat.le_of_lt (Nat.lt_of_le_of_lt (hh.ab hg_r0).1 (hh.ab hg_r0).2)
  have hRc : R.cells = LC - s.heap.size := by rw [← hR]; rfl
  have hRs : R.slots = LS - jTot s.heap := by rw [← hR]; rfl
  refine lv_iload_n hx hb dJx4a65c_add_72be8_0 rfl (lv_at hl 3 rfl) ?_
  refine lv_aload_n hx hb dJx4a65c_add_72be8_1 rfl (lv_at hl 2 rfl) ?_
  refine va_tlen hx hb hK7.2.2.2.2.2.2.2 hh.1 (v := Int32.ofNat 0) rfl dJx4a65c_add_72be8_2 ?_
  refine lv_topi (fun z_1 ez_1 => ?_)
  have hz_1 : z_1.toInt = 0 := by rw [ez_1]; rfl
  refine lv_icmp_ne (tgt := 11) hx hb dJx4a65c_add_72be8_3 (by decide) (fun c_2 => ?_) (fun c_2 => ?_)
  · skip
    have c_2' : a3.toInt ≠ z_1.toInt := jb_ne (rfl) (rfl) c_2
    exact absurd c_2' (by omega)
  · skip
    have c_2' : a3.toInt = z_1.toInt := jb_ne_n (rfl) (rfl) c_2
    refine lv_aload_n hx hb dJx4a65c_add_72be8_6 rfl (lv_at hl 0 rfl) ?_
    have hsz_3 := hh.2.2.2.2.2.1
    have htt_3 := hh.2.2.2.2.2.2.1
    refine W.room (fun hrc_3 hrs_3 => ?_)
    refine j_callx (A0 := jA base) (H0 := s.heap) (va_runV (As := []) (rest := []) ⟨hx, hb, hml, hown, hts⟩ (uJx4a65c_grow_d5877E2 l dC dI ca base B hB hAp hB1 hB10 hB222 G0 s.heap r0 lz LC LS) (cwV 0 hts (jgV (jWr_33 _ (List.mem_of_getElem? (i := 17) rfl)) (jWr_33 _ (List.mem_of_getElem? (i := 18) rfl)) (jWr_33 _ (List.mem_of_getElem? (i := 19) rfl)) (jWr_2 _ (List.mem_of_getElem? (i := 13) rfl)) (jWr_33 _ (List.mem_of_getElem? (i := 20) rfl))) rfl rfl rfl (by decide +kernel) ⟨by rw [← hR]; exact Nat.le_of_ble_eq_true rfl, by rw [← hR]; exact Nat.le_of_ble_eq_true rfl⟩) ⟨fun a U g mk q => by obtain ⟨q0, q1, q2, qK, q10, q11, q12, q13, q14⟩ := q; exact ⟨q0, q1, q2, jG.calling g mk a qK, (jK7.calling g mk a q10), q11, q12, q13, q14⟩, hh.recv (C := RJx4a65c) (T := TJx4a65c) (N := 3) hB1 rfl (by decide) hg_r0 hK, fun U hU hW => ⟨rfl, hU, hh.2.1, hG.step hW hU hh.1, (hK7.step hW hU hh.1), hg_r0, (hh.2.2.1.sub (L1 := [(r0, 1, 1, .ref (dI 99 0)), (r0, 1, 2, .int lz)]) [0, 1] rfl), (hh.2.2.2.2.2.2.2.2.sub (L1 := [(jFl, jLs dC dI ca G0 3 none)]) [0] rfl), by first | omega | rfl | assumption | decide | exact Or.inl rfl | exact Or.inr rfl | (simp only; omega)⟩⟩ rfl rfl hl.1 rfl (lv_room (Nat.le_of_ble_eq_true rfl)) dJx4a65c_add_72be8_7 ⟨by rw [hRc]; omega, by rw [hRs]; omega⟩) hh.1 (fun q _ h => h) (fun q h => h) (fun r_4 u_3 t_3 H_3 locs_3 ht_3 hvm_3 hr_4 hb_3 hz_3 hk_3 hS_3 => ?_)
    rw [ht_3] at hb_3
    obtain ⟨qa_3, m_qa_3, G_3⟩ := u_3
    simp only at hb_3
    obtain ⟨⟨hb_31, hb_32, hb_33, hb_34, hb_35, hb_36⟩, hgq_3_0, hN_3, hbE_3⟩ := hb_3
    have hh_3 : jSt (dC, dI) B base G0 G_3 EJx4a65c_add_72be8E2 s.heap (0 + (1)) (0 + (40)) [(r0, 1, 1, .ref qa_3), (r0, 1, 2, .int lz)] [] [] H_3 locs_3 := (hh.callG hb_31 hb_32 hb_33 hb_34 hb_35 hS_3 rfl (L1 := [(r0, 1, 2, .int lz)]) [1] rfl rfl (M1 := []) [] rfl rfl (I1 := []) [] rfl rfl).more hb_36
    have hNn_3 : (jNk [0, 1, 2, 3, 4, 5, 6, 7, 8, 9, 10, 11, 12, 13, 14, 15, 16]) G0 G_3 := (jNk.rf).tr hN_3
    have hg_5 := hb_32 _ _ hg_r0
    have hg_6 := hb_32 _ _ hg_r1
    have hh_7 := hh_3.addIs hbE_3
    obtain ⟨rfl, hr_4p⟩ := hr_4
    try simp only at hr_4p
    refine lv_astore_n (lv' := [(2, .ref qa_3), (0, .ref r0), (1, .ref r1), (3, .int a3)]) hx hb dJx4a65c_add_72be8_10 rfl hl (by decide) rfl (fun ls hl => ?_)
    obtain ⟨lz_8, lx_8, hl1_8, hl2_8, hl3_8, hl4_8⟩ := jLs.at (hh_7.iv 0 rfl) hg_5
    obtain rfl : lz = lz_8 := Value.int.inj (jf.uniq (hh_7.at 1 rfl) hl1_8)
    have hl3_8 : 0 ≤ lz.toInt ∧ lz.toInt ≤ 12 := hl3_8
    obtain rfl : qa_3 = lx_8 := Value.ref.inj (jf.uniq (hh_7.at 0 rfl) hl2_8)
    rcases hl4_8 with ⟨hl9_8, hl5_8⟩ | ⟨lm_8, lf_8, hg_lx_8, hlm_8, hl6_8, hl7_8, hl8_8⟩
    · skip
      exact absurd (show base ≤ dI 99 0 by rw [← hl9_8]; exact (hh_7.ab hgq_3_0).1) (va_T.out hK7.2.2.2.2.2.2.2)
    · skip
      obtain rfl : m_qa_3 = lm_8 := by have h9 := Option.some.inj (hgq_3_0.symm.trans hg_lx_8); exact congrArg Prod.snd h9
      have hd_9 := jLs.less (hh_7.iv 0 rfl) r0
      have hh_10 := hh_7.sub (L1 := [(r0, 1, 1, .ref qa_3), (r0, 1, 2, .int lz)]) [0, 1] rfl (M1 := []) [] rfl (I1 := []) [] rfl
      clear hh_7
      have hh_11 := hh_10.addI (jLs.ie hd_9)
      clear hh_10
      have hh_12 := hh_11.addI (jQc.ie hl7_8 hg_lx_8 (by decide) (by decide))
      clear hh_11
      refine lv_aload_n hx hb dJx4a65c_add_72be8_11 rfl (lv_at hl 0 rfl) ?_
      refine lv_iload_n hx hb dJx4a65c_add_72be8_12 rfl (lv_at hl 3 rfl) ?_
      refine lv_aload_n hx hb dJx4a65c_add_72be8_13 rfl (lv_at hl 2 rfl) ?_
      have hd_14 := hh_12.iv 0 rfl
      have hd_15 := hh_12.iv 1 rfl
      have hh_17 := hh_12.sub (L1 := [(r0, 1, 1, .ref qa_3), (r0, 1, 2, .int lz)]) [0, 1] rfl (M1 := []) [] rfl (I1 := []) [] rfl
      clear hh_12
      refine j7_qastO hx hb hK hK7.1 hh_17 hB hB222 0 rfl (by decide) (by decide) rfl rfl rfl hgq_3_0 (x := a3.toInt) (rfl) (by omega) hB10 (T := TX8) (N := 5) rfl (by decide) hg_6 hK7.2.2.1.2.1.1 (Or.inr ⟨_, rfl, hg_6⟩) hd_14 dJx4a65c_add_72be8_14 (fun H_13 locs_13 fq_16 hv_13 ho_13 hq_13 hr_13 hh_13 => ?_)
      clear hh_17
      have hd_15n := jLs.arr hd_15 hg_5 hgq_3_0 hr_13
      have hh_18 := hh_13.addI (jLs.ie hd_15n)
      clear hh_13
      have hh_19 := hh_18.addI (hq_13.ie hgq_3_0 (by decide) (by decide))
      clear hh_18
      clear hd_14 hd_15 hd_15n hr_13
      refine lv_aload_n hx hb dJx4a65c_add_72be8_15 rfl (lv_at hl 1 rfl) ?_
      refine lv_iload_n hx hb dJx4a65c_add_72be8_16 rfl (lv_at hl 3 rfl) ?_
      refine lv_iconst (v := 1) hx hb dJx4a65c_add_72be8_17 (by decide) ?_
      refine lv_iadd hx hb dJx4a65c_add_72be8_18 ?_
      refine lv_topi (fun z_20 ez_20 => ?_)
      have hz_20 : z_20.toInt = a3.toInt + 1 := by rw [ez_20]; exact jb_iadd2 (rfl) ((by decide)) (by omega)
      have hd_22 := hh_19.iv 1 rfl
      have hh_23 := hh_19.sub (L1 := [(r0, 1, 1, .ref qa_3), (r0, 1, 2, .int lz)]) [0, 1] rfl (M1 := []) [] rfl (I1 := [([(222, 0)], jQc dC dI (ca 9) qa_3 m_qa_3 fq_16)]) [0] rfl
      clear hh_19
      refine j7_putX hx hb hown hK hh_23 hB hAp hB1 (C := RJx4a65c) (T := TJx4a65c) (N := 3) rfl (by decide) hg_5 (i := 2) (by decide) hly_1_2 rfl hlk_48 rfl (ty := .int) (v := .int z_20) (by decide +kernel) rfl rfl (⟨_, rfl, by omega, by omega⟩) rfl (L1 := [(r0, 1, 1, .ref qa_3)]) [0] rfl rfl rfl dJx4a65c_add_72be8_19 (fun H_21 locs_21 hr_21 hh_21 => ?_)
      clear hh_23
      have hd_22n := jLs.fld hd_22 hg_5 hr_21
      have hh_24 := hh_21.addI (jLs.ie hd_22n)
      clear hh_21
      clear hd_22 hd_22n hr_21
      have hd_25 := jLs.full (hh_24.iv 0 rfl) hg_5 ⟨_, _, hh_24.at 0 rfl, hh_24.at 1 rfl, ⟨by omega, (show _ ≤ (12 : Int) by omega)⟩, Or.inr ⟨_, _, hgq_3_0, by omega, by omega, hh_24.iv 1 rfl, jAd.put hl8_8 (by omega) (by omega) (by omega) (by omega) hv_13 ho_13⟩⟩
      have hh_26 := hh_24.sub (L1 := [(r0, 1, 2, .int z_20), (r0, 1, 1, .ref qa_3)]) [0, 1] rfl (M1 := []) [] rfl (I1 := [([(222, 0)], jQc dC dI (ca 9) qa_3 m_qa_3 fq_16)]) [1] rfl
      clear hh_24
      have hh_27 := hh_26.addI (jLs.ie hd_25)
      clear hh_26
      have hsz_28 := hh_27.2.2.2.2.2.1
      have htt_28 := hh_27.2.2.2.2.2.2.1
      refine W.room (fun hrc_28 hrs_28 => ?_)
      refine W.widen (k := LC - s.heap.size) (n := LS - jTot s.heap) (by omega) (by omega) ?_
      rw [hQ]
      exact W.vret hx hb hr (fun t ht hW => ⟨⟨(z_20, G_3), rfl, by (try dsimp only); first | omega | rfl | assumption | fail, ⟨hh_27.ra (by first | omega | (simp only; omega)) (by first | omega | (simp only; omega)) (M1 := [(r0, 1, 2, .int z_20)]) [0] rfl ht, hNn_3, by rw [ht]; exact hh_27.2.2.2.2.2.2.2.2.sub (L1 := [(jFl, jLs dC dI ca G_3 3 none)]) [0] rfl⟩⟩, by rw [ht]; try exact hh_27.1.1, fun q h9 hq => by rw [ht]; try exact hh_27.1.2.1 q h9 hq⟩) hh_27.1.2.2 dJx4a65c_add_72be8_22
set_option maxHeartbeats 4000000 in
set_option maxRecDepth 20000 in
theorem uJx4a65c_add_72be8L2 (l : Launch) (dC : Nat → ClassId) (dI : Nat → Nat → Nat) (ca : Nat → ClassId) (base : Nat) (B : jF) (hB : jBok B) (hAp : jAp (dC, dI)) (hB1 : ∀ n G a H, B 1 n G a H ↔ jOb (dC, dI) 1 3 (F1 n G) a H) (hB10 : ∀ n G a H, B 10 n G a H ↔ jOb (dC, dI) 10 5 (F10 n G) a H) (hB222 : ∀ n G a H, B 222 n G a H ↔ jAq (dC, dI) (ca 9) (jQn 10 0) n G a H) (G0 : jT) (H0 : Heap) (r0 : Nat) (r1 : Nat) (r2 : Nat) (a3 : Int32) (n2 : Nat) (lz : Int32) (LC LS : Nat) : Met l yJx4a65c_add_72be8 (jw yJx4a65c_add_72be8 cJx4a65c_add_72be8 4 none) ({ frames := 5, cells := LC - H0.size, slots := LS - jTot H0, locals := 148 }) (va_Pc [.ref r0, .ref r1, .ref r2, .int a3] (fun U => U.heap = H0 ∧ jX B base G0 [] H0 ∧ jG dC dI ca base U ∧ jK7 dC dI ca base U ∧ G0 r0 = some (1, 2) ∧ G0 r1 = some (10, 0) ∧ G0 r2 = some (222, n2) ∧ jP (dC, dI) G0 H0 [(r0, 1, 1, .ref r2), (r0, 1, 2, .int lz)] ∧ jIs (dC, dI) G0 H0 [(jFl, jLs dC dI ca G0 3 none)] ∧ H0.size + 1 ≤ LC ∧ jTot H0 + 40 ≤ LS ∧ a3.toInt = lz.toInt ∧ 0 ≤ lz.toInt ∧ lz.toInt < 12 ∧ n2 ≤ 40)) (va_Qv (S := Int32 × jT) (fun u => u.1.toInt = lz.toInt + 1) (fun u t => jRa (dC, dI) B base G0 u.2 EJx4a65c_add_72be8L2 H0 (1) (40) [(r0, 1, 2, .int u.1)] t.heap ∧ (jNk [0, 1, 2, 3, 4, 5, 6, 7, 8, 9, 10, 11, 12, 13, 14, 15, 16]) G0 u.2 ∧ jIs (dC, dI) u.2 t.heap [(jFl, jLs dC dI ca u.2 3 none)]) (jA base)) (LC - H0.size) (LS - jTot H0) (jA base) := by
  refine Met.ofW (cc := cJx4a65c_add_72be8) (maxL := 4) (ret := none) (by decide) rfl ?_
  intro p e s m args below meth c s₁ Bd hml hv
  obtain ⟨rfl, hH0, hX, hG, hK7, hg_r0, hg_r1, hg_r2, hP0, hI0, hLC0, hLS0, hp0, hp1, hp2, hp3⟩ := hv
  have hK := hG.1
  have hx := Bd.exec
  have hb := Bd.bytes
  have hr := Bd.returns
  have hts := atoms_spec (ws := (jw yJx4a65c_add_72be8 cJx4a65c_add_72be8 4 none)) Bd.pre
  have htw : ∀ w ∈ jWl, w.before _ s = true := fun w h => hts w (List.mem_cons_of_mem _ h)
  have hown : s.vm.findClass RJx4a65c = some m.cls := findClass_of_methodNamed Bd.named
  have hlocks := Bd.notSynchronized
  obtain ⟨Q, hQ⟩ : ∃ Q, Q = MQ below (va_Qv (S := Int32 × jT) (fun u => u.1.toInt = lz.toInt + 1) (fun u t => jRa (dC, dI) B base G0 u.2 EJx4a65c_add_72be8L2 H0 (1) (40) [(r0, 1, 2, .int u.1)] t.heap ∧ (jNk [0, 1, 2, 3, 4, 5, 6, 7, 8, 9, 10, 11, 12, 13, 14, 15, 16]) G0 u.2 ∧ jIs (dC, dI) u.2 t.heap [(jFl, jLs dC dI ca u.2 3 none)]) (jA base)) ([.ref r0, .ref r1, .ref r2, .int a3] : List Value).toArray s (LC - H0.size) (LS - jTot H0) (jA base) := ⟨_, rfl⟩
  rw [← hQ]
  have hl := lv_entry ([.ref r0, .ref r1, .ref r2, .int a3]) (n := 4) (Nat.le_of_ble_eq_true rfl)
  rw [lg_entry_eq]
  generalize (lg_sl ([.ref r0, .ref r1, .ref r2, .int a3]) ++ List.replicate (4 - (lg_sl ([.ref r0, .ref r1, .ref r2, .int a3])).length) Slot.unset).toArray = ls at hl ⊢
  have hl : lv_has ls 4 [(0, .ref r0), (1, .ref r1), (2, .ref r2), (3, .int a3)] := hl
  generalize hR : (headSpec (jw yJx4a65c_add_72be8 cJx4a65c_add_72be8 4 none) ({ frames := 5, cells := LC - H0.size, slots := LS - jTot H0, locals := 148 })).room = R
  subst hH0
  have hh : jSt (dC, dI) B base G0 G0 EJx4a65c_add_72be8L2 s.heap 0 0 [(r0, 1, 1, .ref r2), (r0, 1, 2, .int lz)] [] [(jFl, jLs dC dI ca G0 3 none)] s.heap [] := jSt.start hX hP0 jMc.nil hI0
  clear hX hP0
  have hk0 : (0 : Int32).toInt = 0 := by decide
  have hk1 : (1 : Int32).toInt = 1 := by decide
  have hly_1_2 := htw (u_lay RJx4a65c TJx4a65c 2) (jWc_wsJx4a65c0 _ (u_in_lay (by decide)))
  have hlk_48 := (htw (.fieldLink RJx4a65c 48 "java/util/ArrayList" "size" "I") (jWr_28 _ (List.mem_of_getElem? (i := 2) rfl)))
  have hrg_a3 := jb_rng a3
  have hbs : base ≤ s.heap.size := Nat.le_of_lt (Nat.lt_of_le_of_lt (hh.ab hg_r0).1 (hh.ab hg_r0).2)
  have hRc : R.cells = LC - s.heap.size := by rw [← hR]; rfl
  have hRs : R.slots = LS - jTot s.heap := by rw [← hR]; rfl
  refine lv_iload_n hx hb dJx4a65c_add_72be8_0 rfl (lv_at hl 3 rfl) ?_
  refine lv_aload_n hx hb dJx4a65c_add_72be8_1 rfl (lv_at hl 2 rfl) ?_
  refine j7_qlen hx hb hK7.1 hh hB222 0 rfl (by decide) hg_r2 (by omega) dJx4a65c_add_72be8_2 (fun z_1 hz_1 => ?_)
  refine lv_icmp_ne (tgt := 11) hx hb dJx4a65c_add_72be8_3 (by decide) (fun c_2 => ?_) (fun c_2 => ?_)
  · skip
    have c_2' : a3.toInt ≠ z_1.toInt := jb_ne (rfl) (rfl) c_2
    obtain ⟨lz_3, lx_3, hl1_3, hl2_3, hl3_3, hl4_3⟩ := jLs.at (hh.iv 0 rfl) hg_r0
    obtain rfl : lz = lz_3 := Value.int.inj (jf.uniq (hh.at 1 rfl) hl1_3)
    have hl3_3 : 0 ≤ lz.toInt ∧ lz.toInt ≤ 12 := hl3_3
    obtain rfl : r2 = lx_3 := Value.ref.inj (jf.uniq (hh.at 0 rfl) hl2_3)
    rcases hl4_3 with ⟨hl9_3, hl5_3⟩ | ⟨lm_3, lf_3, hg_lx_3, hlm_3, hl6_3, hl7_3, hl8_3⟩
    · skip
      exact absurd (show base ≤ dI 99 0 by rw [← hl9_3]; exact (hh.ab hg_r2).1) (va_T.out hK7.2.2.2.2.2.2.2)
    · skip
      obtain rfl : n2 = lm_3 := by have h9 := Option.some.inj (hg_r2.symm.trans hg_lx_3); exact congrArg Prod.snd h9
      have hd_4 := jLs.less (hh.iv 0 rfl) r0
      have hh_5 := hh.sub (L1 := [(r0, 1, 1, .ref r2), (r0, 1, 2, .int lz)]) [0, 1] rfl (M1 := []) [] rfl (I1 := []) [] rfl
      clear hh
      have hh_6 := hh_5.addI (jLs.ie hd_4)
      clear hh_5
      have hh_7 := hh_6.addI (jQc.ie hl7_3 hg_lx_3 (by decide) (by decide))
      clear hh_6
      refine lv_aload_n hx hb dJx4a65c_add_72be8_11 rfl (lv_at hl 2 rfl) ?_
      refine lv_iload_n hx hb dJx4a65c_add_72be8_12 rfl (lv_at hl 3 rfl) ?_
      refine lv_aload_n hx hb dJx4a65c_add_72be8_13 rfl (lv_at hl 1 rfl) ?_
      have hd_9 := hh_7.iv 0 rfl
      have hd_10 := hh_7.iv 1 rfl
      have hh_12 := hh_7.sub (L1 := [(r0, 1, 1, .ref r2), (r0, 1, 2, .int lz)]) [0, 1] rfl (M1 := []) [] rfl (I1 := []) [] rfl
      clear hh_7
      refine j7_qastO hx hb hK hK7.1 hh_12 hB hB222 0 rfl (by decide) (by decide) rfl rfl rfl hg_r2 (x := a3.toInt) (rfl) (by omega) hB10 (T := TX8) (N := 5) rfl (by decide) hg_r1 hK7.2.2.1.2.1.1 (Or.inr ⟨_, rfl, hg_r1⟩) hd_9 dJx4a65c_add_72be8_14 (fun H_8 locs_8 fq_11 hv_8 ho_8 hq_8 hr_8 hh_8 => ?_)
      clear hh_12
      have hd_10n := jLs.arr hd_10 hg_r0 hg_r2 hr_8
      have hh_13 := hh_8.addI (jLs.ie hd_10n)
      clear hh_8
      have hh_14 := hh_13.addI (hq_8.ie hg_r2 (by decide) (by decide))
      clear hh_13
      clear hd_9 hd_10 hd_10n hr_8
      refine lv_aload_n hx hb dJx4a65c_add_72be8_15 rfl (lv_at hl 0 rfl) ?_
      refine lv_iload_n hx hb dJx4a65c_add_72be8_16 rfl (lv_at hl 3 rfl) ?_
      refine lv_iconst (v := 1) hx hb dJx4a65c_add_72be8_17 (by decide) ?_
      refine lv_iadd hx hb dJx4a65c_add_72be8_18 ?_
      refine lv_topi (fun z_15 ez_15 => ?_)
      have hz_15 : z_15.toInt = a3.toInt + 1 := by rw [ez_15]; exact jb_iadd2 (rfl) ((by decide)) (by omega)
      have hd_17 := hh_14.iv 1 rfl
      have hh_18 := hh_14.sub (L1 := [(r0, 1, 1, .ref r2), (r0, 1, 2, .int lz)]) [0, 1] rfl (M1 := []) [] rfl (I1 := [([(222, 0)], jQc dC dI (ca 9) r2 n2 fq_11)]) [0] rfl
      clear hh_14
      refine j7_putX hx hb hown hK hh_18 hB hAp hB1 (C := RJx4a65c) (T := TJx4a65c) (N := 3) rfl (by decide) hg_r0 (i := 2) (by decide) hly_1_2 rfl hlk_48 rfl (ty := .int) (v := .int z_15) (by decide +kernel) rfl rfl (⟨_, rfl, by omega, by omega⟩) rfl (L1 := [(r0, 1, 1, .ref r2)]) [0] rfl rfl rfl dJx4a65c_add_72be8_19 (fun H_16 locs_16 hr_16 hh_16 => ?_)
      clear hh_18
      have hd_17n := jLs.fld hd_17 hg_r0 hr_16
      have hh_19 := hh_16.addI (jLs.ie hd_17n)
      clear hh_16
      clear hd_17 hd_17n hr_16
      have hd_20 := jLs.full (hh_19.iv 0 rfl) hg_r0 ⟨_, _, hh_19.at 0 rfl, hh_19.at 1 rfl, ⟨by omega, (show _ ≤ (12 : Int) by omega)⟩, Or.inr ⟨_, _, hg_r2, by omega, by omega, hh_19.iv 1 rfl, jAd.put hl8_3 (by omega) (by omega) (by omega) (by omega) hv_8 ho_8⟩⟩
      have hh_21 := hh_19.sub (L1 := [(r0, 1, 2, .int z_15), (r0, 1, 1, .ref r2)]) [0, 1] rfl (M1 := []) [] rfl (I1 := [([(222, 0)], jQc dC dI (ca 9) r2 n2 fq_11)]) [1] rfl
      clear hh_19
      have hh_22 := hh_21.addI (jLs.ie hd_20)
      clear hh_21
      have hsz_23 := hh_22.2.2.2.2.2.1
      have htt_23 := hh_22.2.2.2.2.2.2.1
      refine W.room (fun hrc_23 hrs_23 => ?_)
      refine W.widen (k := LC - s.heap.size) (n := LS - jTot s.heap) (by omega) (by omega) ?_
      rw [hQ]
      exact W.vret hx hb hr (fun t ht hW => ⟨⟨(z_15, G0), rfl, by (try dsimp only); first | omega | rfl | assumption | fail, ⟨hh_22.ra (by first | omega | (simp only; omega)) (by first | omega | (simp only; omega)) (M1 := [(r0, 1, 2, .int z_15)]) [0] rfl ht, jNk.rf, by rw [ht]; exact hh_22.2.2.2.2.2.2.2.2.sub (L1 := [(jFl, jLs dC dI ca G0 3 none)]) [0] rfl⟩⟩, by rw [ht]; try exact hh_22.1.1, fun q h9 hq => by rw [ht]; try exact hh_22.1.2.1 q h9 hq⟩) hh_22.1.2.2 dJx4a65c_add_72be8_22
  · skip
    have c_2' : a3.toInt = z_1.toInt := jb_ne_n (rfl) (rfl) c_2
    refine lv_aload_n hx hb dJx4a65c_add_72be8_6 rfl (lv_at hl 0 rfl) ?_
    have hsz_24 := hh.2.2.2.2.2.1
    have htt_24 := hh.2.2.2.2.2.2.1
    refine W.room (fun hrc_24 hrs_24 => ?_)
    refine j_callx (A0 := jA base) (H0 := s.heap) (va_runV (As := []) (rest := []) ⟨hx, hb, hml, hown, hts⟩ (uJx4a65c_grow_d5877L2 l dC dI ca base B hB hAp hB1 hB10 hB222 G0 s.heap r0 r2 n2 lz LC LS) (cwV 0 hts (jgV (jWr_33 _ (List.mem_of_getElem? (i := 17) rfl)) (jWr_33 _ (List.mem_of_getElem? (i := 18) rfl)) (jWr_33 _ (List.mem_of_getElem? (i := 19) rfl)) (jWr_2 _ (List.mem_of_getElem? (i := 13) rfl)) (jWr_33 _ (List.mem_of_getElem? (i := 20) rfl))) rfl rfl rfl (by decide +kernel) ⟨by rw [← hR]; exact Nat.le_of_ble_eq_true rfl, by rw [← hR]; exact Nat.le_of_ble_eq_true rfl⟩) ⟨fun a U g mk q => by obtain ⟨q0, q1, q2, qK, q10, q11, q12, q13, q14, q15⟩ := q; exact ⟨q0, q1, q2, jG.calling g mk a qK, (jK7.calling g mk a q10), q11, q12, q13, q14, q15⟩, hh.recv (C := RJx4a65c) (T := TJx4a65c) (N := 3) hB1 rfl (by decide) hg_r0 hK, fun U hU hW => ⟨rfl, hU, hh.2.1, hG.step hW hU hh.1, (hK7.step hW hU hh.1), hg_r0, hg_r2, (hh.2.2.1.sub (L1 := [(r0, 1, 1, .ref r2), (r0, 1, 2, .int lz)]) [0, 1] rfl), (hh.2.2.2.2.2.2.2.2.sub (L1 := [(jFl, jLs dC dI ca G0 3 none)]) [0] rfl), by first | omega | (refine ⟨?_, ?_⟩ <;> (first | omega | rfl | assumption | decide | exact Or.inl rfl | exact Or.inr rfl | (simp only; omega)))⟩⟩ rfl rfl hl.1 rfl (lv_room (Nat.le_of_ble_eq_true rfl)) dJx4a65c_add_72be8_7 ⟨by rw [hRc]; omega, by rw [hRs]; omega⟩) hh.1 (fun q _ h => h) (fun q h => h) (fun r_25 u_24 t_24 H_24 locs_24 ht_24 hvm_24 hr_25 hb_24 hz_24 hk_24 hS_24 => ?_)
    rw [ht_24] at hb_24
    obtain ⟨qa_24, m_qa_24, G_24⟩ := u_24
    simp only at hb_24
    obtain ⟨⟨hb_241, hb_242, hb_243, hb_244, hb_245, hb_246⟩, hgq_24_0, hN_24, hbE_24⟩ := hb_24
    have hh_24 : jSt (dC, dI) B base G0 G_24 EJx4a65c_add_72be8L2 s.heap (0 + (1)) (0 + (40)) [(r0, 1, 1, .ref qa_24), (r0, 1, 2, .int lz)] [] [] H_24 locs_24 := (hh.callG hb_241 hb_242 hb_243 hb_244 hb_245 hS_24 rfl (L1 := [(r0, 1, 2, .int lz)]) [1] rfl rfl (M1 := []) [] rfl rfl (I1 := []) [] rfl rfl).more hb_246
    have hNn_24 : (jNk [0, 1, 2, 3, 4, 5, 6, 7, 8, 9, 10, 11, 12, 13, 14, 15, 16]) G0 G_24 := (jNk.rf).tr hN_24
    have hg_26 := hb_242 _ _ hg_r0
    have hg_27 := hb_242 _ _ hg_r1
    have hg_28 := hb_242 _ _ hg_r2
    have hh_29 := hh_24.addIs hbE_24
    obtain ⟨rfl, hr_25p⟩ := hr_25
    try simp only at hr_25p
    obtain ⟨hr_25p_0, hr_25p_1⟩ := hr_25p
    refine lv_astore_n (lv' := [(2, .ref qa_24), (0, .ref r0), (1, .ref r1), (3, .int a3)]) hx hb dJx4a65c_add_72be8_10 rfl hl (by decide) rfl (fun ls hl => ?_)
    obtain ⟨lz_30, lx_30, hl1_30, hl2_30, hl3_30, hl4_30⟩ := jLs.at (hh_29.iv 0 rfl) hg_26
    obtain rfl : lz = lz_30 := Value.int.inj (jf.uniq (hh_29.at 1 rfl) hl1_30)
    have hl3_30 : 0 ≤ lz.toInt ∧ lz.toInt ≤ 12 := hl3_30
    obtain rfl : qa_24 = lx_30 := Value.ref.inj (jf.uniq (hh_29.at 0 rfl) hl2_30)
    rcases hl4_30 with ⟨hl9_30, hl5_30⟩ | ⟨lm_30, lf_30, hg_lx_30, hlm_30, hl6_30, hl7_30, hl8_30⟩
    · skip
      exact absurd (show base ≤ dI 99 0 by rw [← hl9_30]; exact (hh_29.ab hgq_24_0).1) (va_T.out hK7.2.2.2.2.2.2.2)
    · skip
      obtain rfl : m_qa_24 = lm_30 := by have h9 := Option.some.inj (hgq_24_0.symm.trans hg_lx_30); exact congrArg Prod.snd h9
      have hd_31 := jLs.less (hh_29.iv 0 rfl) r0
      have hh_32 := hh_29.sub (L1 := [(r0, 1, 1, .ref qa_24), (r0, 1, 2, .int lz)]) [0, 1] rfl (M1 := []) [] rfl (I1 := []) [] rfl
      clear hh_29
      have hh_33 := hh_32.addI (jLs.ie hd_31)
      clear hh_32
      have hh_34 := hh_33.addI (jQc.ie hl7_30 hg_lx_30 (by decide) (by decide))
      clear hh_33
      refine lv_aload_n hx hb dJx4a65c_add_72be8_11 rfl (lv_at hl 0 rfl) ?_
      refine lv_iload_n hx hb dJx4a65c_add_72be8_12 rfl (lv_at hl 3 rfl) ?_
      refine lv_aload_n hx hb dJx4a65c_add_72be8_13 rfl (lv_at hl 2 rfl) ?_
      have hd_36 := hh_34.iv 0 rfl
      have hd_37 := hh_34.iv 1 rfl
      have hh_39 := hh_34.sub (L1 := [(r0, 1, 1, .ref qa_24), (r0, 1, 2, .int lz)]) [0, 1] rfl (M1 := []) [] rfl (I1 := []) [] rfl
      clear hh_34
      refine j7_qastO hx hb hK hK7.1 hh_39 hB hB222 0 rfl (by decide) (by decide) rfl rfl rfl hgq_24_0 (x := a3.toInt) (rfl) (by omega) hB10 (T := TX8) (N := 5) rfl (by decide) hg_27 hK7.2.2.1.2.1.1 (Or.inr ⟨_, rfl, hg_27⟩) hd_36 dJx4a65c_add_72be8_14 (fun H_35 locs_35 fq_38 hv_35 ho_35 hq_35 hr_35 hh_35 => ?_)
      clear hh_39
      have hd_37n := jLs.arr hd_37 hg_26 hgq_24_0 hr_35
      have hh_40 := hh_35.addI (jLs.ie hd_37n)
      clear hh_35
      have hh_41 := hh_40.addI (hq_35.ie hgq_24_0 (by decide) (by decide))
      clear hh_40
      clear hd_36 hd_37 hd_37n hr_35
      refine lv_aload_n hx hb dJx4a65c_add_72be8_15 rfl (lv_at hl 1 rfl) ?_
      refine lv_iload_n hx hb dJx4a65c_add_72be8_16 rfl (lv_at hl 3 rfl) ?_
      refine lv_iconst (v := 1) hx hb dJx4a65c_add_72be8_17 (by decide) ?_
      refine lv_iadd hx hb dJx4a65c_add_72be8_18 ?_
      refine lv_topi (fun z_42 ez_42 => ?_)
      have hz_42 : z_42.toInt = a3.toInt + 1 := by rw [ez_42]; exact jb_iadd2 (rfl) ((by decide)) (by omega)
      have hd_44 := hh_41.iv 1 rfl
      have hh_45 := hh_41.sub (L1 := [(r0, 1, 1, .ref qa_24), (r0, 1, 2, .int lz)]) [0, 1] rfl (M1 := []) [] rfl (I1 := [([(222, 0)], jQc dC dI (ca 9) qa_24 m_qa_24 fq_38)]) [0] rfl
      clear hh_41
      refine j7_putX hx hb hown hK hh_45 hB hAp hB1 (C := RJx4a65c) (T := TJx4a65c) (N := 3) rfl (by decide) hg_26 (i := 2) (by decide) hly_1_2 rfl hlk_48 rfl (ty := .int) (v := .int z_42) (by decide +kernel) rfl rfl (⟨_, rfl, by omega, by omega⟩) rfl (L1 := [(r0, 1, 1, .ref qa_24)]) [0] rfl rfl rfl dJx4a65c_add_72be8_19 (fun H_43 locs_43 hr_43 hh_43 => ?_)
      clear hh_45
      have hd_44n := jLs.fld hd_44 hg_26 hr_43
      have hh_46 := hh_43.addI (jLs.ie hd_44n)
      clear hh_43
      clear hd_44 hd_44n hr_43
      have hd_47 := jLs.full (hh_46.iv 0 rfl) hg_26 ⟨_, _, hh_46.at 0 rfl, hh_46.at 1 rfl, ⟨by omega, (show _ ≤ (12 : Int) by omega)⟩, Or.inr ⟨_, _, hgq_24_0, by omega, by omega, hh_46.iv 1 rfl, jAd.put hl8_30 (by omega) (by omega) (by omega) (by omega) hv_35 ho_35⟩⟩
      have hh_48 := hh_46.sub (L1 := [(r0, 1, 2, .int z_42), (r0, 1, 1, .ref qa_24)]) [0, 1] rfl (M1 := []) [] rfl (I1 := [([(222, 0)], jQc dC dI (ca 9) qa_24 m_qa_24 fq_38)]) [1] rfl
      clear hh_46
      have hh_49 := hh_48.addI (jLs.ie hd_47)
      clear hh_48
      have hsz_50 := hh_49.2.2.2.2.2.1
      have htt_50 := hh_49.2.2.2.2.2.2.1
      refine W.room (fun hrc_50 hrs_50 => ?_)
      refine W.widen (k := LC - s.heap.size) (n := LS - jTot s.heap) (by omega) (by omega) ?_
      rw [hQ]
      exact W.vret hx hb hr (fun t ht hW => ⟨⟨(z_42, G_24), rfl, by (try dsimp only); first | omega | rfl | assumption | fail, ⟨hh_49.ra (by first | omega | (simp only; omega)) (by first | omega | (simp only; omega)) (M1 := [(r0, 1, 2, .int z_42)]) [0] rfl ht, hNn_24, by rw [ht]; exact hh_49.2.2.2.2.2.2.2.2.sub (L1 := [(jFl, jLs dC dI ca G_24 3 none)]) [0] rfl⟩⟩, by rw [ht]; try exact hh_49.1.1, fun q h9 hq => by rw [ht]; try exact hh_49.1.2.1 q h9 hq⟩) hh_49.1.2.2 dJx4a65c_add_72be8_22
set_option maxHeartbeats 4000000 in
set_option maxRecDepth 20000 in
theorem uJx4a65c_add_9ea2dL2 (l : Launch) (dC : Nat → ClassId) (dI : Nat → Nat → Nat) (ca : Nat → ClassId) (base : Nat) (B : jF) (hB : jBok B) (hAp : jAp (dC, dI)) (hB1 : ∀ n G a H, B 1 n G a H ↔ jOb (dC, dI) 1 3 (F1 n G) a H) (hB10 : ∀ n G a H, B 10 n G a H ↔ jOb (dC, dI) 10 5 (F10 n G) a H) (hB222 : ∀ n G a H, B 222 n G a H ↔ jAq (dC, dI) (ca 9) (jQn 10 0) n G a H) (G0 : jT) (H0 : Heap) (r0 : Nat) (r1 : Nat) (lz : Int32) (LC LS : Nat) : Met l yJx4a65c_add_9ea2d (jw yJx4a65c_add_9ea2d cJx4a65c_add_9ea2d 2 (some .boolean)) ({ frames := 6, cells := LC - H0.size, slots := LS - jTot H0, locals := 171 }) (va_Pc [.ref r0, .ref r1] (fun U => U.heap = H0 ∧ jX B base G0 [] H0 ∧ jG dC dI ca base U ∧ jK7 dC dI ca base U ∧ G0 r0 = some (1, 2) ∧ G0 r1 = some (10, 0) ∧ jP (dC, dI) G0 H0 [(r0, 1, 2, .int lz)] ∧ jIs (dC, dI) G0 H0 [(jFl, jLs dC dI ca G0 3 none)] ∧ H0.size + 1 ≤ LC ∧ jTot H0 + 40 ≤ LS ∧ 0 ≤ lz.toInt ∧ lz.toInt < 12)) (va_Qi (S := Int32 × jT) (fun r u => (r = 0 ∨ r = 1) ∧ (u.1.toInt = lz.toInt + 1)) (fun u t => jRa (dC, dI) B base G0 u.2 EJx4a65c_add_9ea2dL2 H0 (1) (40) [(r0, 1, 2, .int u.1)] t.heap ∧ (jNk [0, 1, 2, 3, 4, 5, 6, 7, 8, 9, 10, 11, 12, 13, 14, 15, 16]) G0 u.2 ∧ jIs (dC, dI) u.2 t.heap [(jFl, jLs dC dI ca u.2 3 none)]) (jA base)) (LC - H0.size) (LS - jTot H0) (jA base) := by
  refine Met.ofW (cc := cJx4a65c_add_9ea2d) (maxL := 2) (ret := (some .boolean)) (by decide) rfl ?_
  intro p e s m args below meth c s₁ Bd hml hv
  obtain ⟨rfl, hH0, hX, hG, hK7, hg_r0, hg_r1, hP0, hI0, hLC0, hLS0, hp0, hp1⟩ := hv
  have hK := hG.1
  have hx := Bd.exec
  have hb := Bd.bytes
  have hr := Bd.returns
  have hts := atoms_spec (ws := (jw yJx4a65c_add_9ea2d cJx4a65c_add_9ea2d 2 (some .boolean))) Bd.pre
  have htw : ∀ w ∈ jWl, w.before _ s = true := fun w h => hts w (List.mem_cons_of_mem _ h)
  have hown : s.vm.findClass RJx4a65c = some m.cls := findClass_of_methodNamed Bd.named
  have hlocks := Bd.notSynchronized
  obtain ⟨Q, hQ⟩ : ∃ Q, Q = MQ below (va_Qi (S := Int32 × jT) (fun r u => (r = 0 ∨ r = 1) ∧ (u.1.toInt = lz.toInt + 1)) (fun u t => jRa (dC, dI) B base G0 u.2 EJx4a65c_add_9ea2dL2 H0 (1) (40) [(r0, 1, 2, .int u.1)] t.heap ∧ (jNk [0, 1, 2, 3, 4, 5, 6, 7, 8, 9, 10, 11, 12, 13, 14, 15, 16]) G0 u.2 ∧ jIs (dC, dI) u.2 t.heap [(jFl, jLs dC dI ca u.2 3 none)]) (jA base)) ([.ref r0, .ref r1] : List Value).toArray s (LC - H0.size) (LS - jTot H0) (jA base) := ⟨_, rfl⟩
  rw [← hQ]
  have hl := lv_entry ([.ref r0, .ref r1]) (n := 2) (Nat.le_of_ble_eq_true rfl)
  rw [lg_entry_eq]
  generalize (lg_sl ([.ref r0, .ref r1]) ++ List.replicate (2 - (lg_sl ([.ref r0, .ref r1])).length) Slot.unset).toArray = ls at hl ⊢
  have hl : lv_has ls 2 [(0, .ref r0), (1, .ref r1)] := hl
  generalize hR : (headSpec (jw yJx4a65c_add_9ea2d cJx4a65c_add_9ea2d 2 (some .boolean)) ({ frames := 6, cells := LC - H0.size, slots := LS - jTot H0, locals := 171 })).room = R
  subst hH0
  have hh : jSt (dC, dI) B base G0 G0 EJx4a65c_add_9ea2dL2 s.heap 0 0 [(r0, 1, 2, .int lz)] [] [(jFl, jLs dC dI ca G0 3 none)] s.heap [] := jSt.start hX hP0 jMc.nil hI0
  clear hX hP0
  have hk0 : (0 : Int32).toInt = 0 := by decide
  have hk1 : (1 : Int32).toInt = 1 := by decide
  have hly_1_0 := htw (u_lay RJx4a65c TJx4a65c 0) (jWc_wsJx4a65c0 _ (u_in_lay (by decide)))
  have hly_1_1 := htw (u_lay RJx4a65c TJx4a65c 1) (jWc_wsJx4a65c0 _ (u_in_lay (by decide)))
  have hly_1_2 := htw (u_lay RJx4a65c TJx4a65c 2) (jWc_wsJx4a65c0 _ (u_in_lay (by decide)))
  have hlk_63 := (htw (.fieldLink RJx4a65c 63 "java/util/ArrayList" "modCount" "I") (jWr_33 _ (List.mem_of_getElem? (i := 11) rfl)))
  have hlk_9 := (htw (.fieldLink RJx4a65c 9 "java/util/ArrayList" "elementData" "[Ljava/lang/Object;") (jWr_9 _ (List.mem_of_getElem? (i := 15) rfl)))
  have hlk_48 := (htw (.fieldLink RJx4a65c 48 "java/util/ArrayList" "size" "I") (jWr_28 _ (List.mem_of_getElem? (i := 2) rfl)))
  have hbs : base ≤ s.heap.size := Nat.le_of_lt (Nat.lt_of_le_of_lt (hh.ab hg_r0).1 (hh.ab hg_r0).2)
  have hRc : R.cells = LC - s.heap.size := by rw [← hR]; rfl
  have hRs : R.slots = LS - jTot s.heap := by rw [← hR]; rfl
  refine lv_aload_n hx hb dJx4a65c_add_9ea2d_0 rfl (lv_at hl 0 rfl) ?_
  refine lv_dup hx hb dJx4a65c_add_9ea2d_1 rfl ?_
  obtain ⟨v_1, hv_1, hh_2⟩ := hh.pin (C := RJx4a65c) (T := TJx4a65c) (N := 3) hB1 rfl (by decide) hg_r0 (i := 0) (by decide) rfl
  clear hh
  obtain ⟨modCount_3, rfl⟩ := hv_1
  refine j7_readS hx hb hown hK (C := RJx4a65c) (T := TJx4a65c) (N := 3) rfl hly_1_0 hlk_63 (htw (.sameField "java/util/ArrayList" "java/util/AbstractList" "modCount" "I") (jWr_33 _ (List.mem_of_getElem? (i := 12) rfl))) (hh_2.at 0 rfl) dJx4a65c_add_9ea2d_2 ?_
  refine lv_iconst (v := 1) hx hb dJx4a65c_add_9ea2d_5 (by decide) ?_
  refine lv_iadd hx hb dJx4a65c_add_9ea2d_6 ?_
  refine lv_topi (fun z_4 ez_4 => ?_)
  refine j7_putS hx hb hown hK hh_2 hB hAp hB1 (C := RJx4a65c) (T := TJx4a65c) (N := 3) rfl (by decide) hg_r0 (i := 0) (by decide) hly_1_0 rfl hlk_63 (htw (.sameField "java/util/ArrayList" "java/util/AbstractList" "modCount" "I") (jWr_33 _ (List.mem_of_getElem? (i := 12) rfl))) rfl (ty := .int) (v := .int z_4) (by decide +kernel) rfl rfl (⟨_, rfl⟩) rfl (L1 := [(r0, 1, 2, .int lz)]) [1] rfl rfl rfl dJx4a65c_add_9ea2d_7 (fun H_5 locs_5 hr_5 hh_5 => ?_)
  clear hh_2
  clear hr_5
  obtain ⟨lz_6, lx_6, hl1_6, hl2_6, hl3_6, hl4_6⟩ := jLs.at (hh_5.iv 0 rfl) hg_r0
  obtain rfl : lz = lz_6 := Value.int.inj (jf.uniq (hh_5.at 1 rfl) hl1_6)
  have hl3_6 : 0 ≤ lz.toInt ∧ lz.toInt ≤ 12 := hl3_6
  rcases hl4_6 with ⟨rfl, hl5_6⟩ | ⟨lm_6, lf_6, hg_lx_6, hlm_6, hl6_6, hl7_6, hl8_6⟩
  · skip
    have hh_7 := hh_5.more (P1 := [(r0, 1, 1, .ref (dI 99 0))]) (jP.cons hg_r0 hl2_6 jP.nil)
    clear hh_5
    refine lv_aload_n hx hb dJx4a65c_add_9ea2d_10 rfl (lv_at hl 0 rfl) ?_
    refine lv_aload_n hx hb dJx4a65c_add_9ea2d_11 rfl (lv_at hl 1 rfl) ?_
    refine lv_aload_n hx hb dJx4a65c_add_9ea2d_12 rfl (lv_at hl 0 rfl) ?_
    refine j7_read hx hb hown hK (C := RJx4a65c) (T := TJx4a65c) (N := 3) rfl hly_1_1 hlk_9 (hh_7.at 0 rfl) dJx4a65c_add_9ea2d_13 ?_
    refine lv_aload_n hx hb dJx4a65c_add_9ea2d_16 rfl (lv_at hl 0 rfl) ?_
    refine j7_read hx hb hown hK (C := RJx4a65c) (T := TJx4a65c) (N := 3) rfl hly_1_2 hlk_48 (hh_7.at 2 rfl) dJx4a65c_add_9ea2d_17 ?_
    have hsz_8 := hh_7.2.2.2.2.2.1
    have htt_8 := hh_7.2.2.2.2.2.2.1
    refine W.room (fun hrc_8 hrs_8 => ?_)
    refine va_callv (A0 := jA base) (H0 := s.heap) (va_runV (As := [.ref r1, .ref (dI 99 0), .int lz]) (rest := []) ⟨hx, hb, hml, hown, hts⟩ (uJx4a65c_add_72be8E2 l dC dI ca base B hB hAp hB1 hB10 hB222 G0 H_5 r0 r1 lz lz LC LS) (cwV 3 hts (jgV (jWr_33 _ (List.mem_of_getElem? (i := 13) rfl)) (jWr_33 _ (List.mem_of_getElem? (i := 14) rfl)) (jWr_33 _ (List.mem_of_getElem? (i := 15) rfl)) (jWr_2 _ (List.mem_of_getElem? (i := 13) rfl)) (jWr_33 _ (List.mem_of_getElem? (i := 16) rfl))) rfl rfl rfl (by decide +kernel) ⟨by rw [← hR]; exact Nat.le_of_ble_eq_true rfl, by rw [← hR]; exact Nat.le_of_ble_eq_true rfl⟩) ⟨fun a U g mk q => by obtain ⟨q0, q1, q2, qK, q10, q11, q12, q13, q14, q15⟩ := q; exact ⟨q0, q1, q2, jG.calling g mk a qK, (jK7.calling g mk a q10), q11, q12, q13, q14, q15⟩, hh_7.recv (C := RJx4a65c) (T := TJx4a65c) (N := 3) hB1 rfl (by decide) hg_r0 hK, fun U hU hW => ⟨rfl, hU, hh_7.2.1, hG.step hW hU hh_7.1, (hK7.step hW hU hh_7.1), hg_r0, hg_r1, (hh_7.2.2.1.sub (L1 := [(r0, 1, 1, .ref (dI 99 0)), (r0, 1, 2, .int lz)]) [0, 2] rfl), (hh_7.2.2.2.2.2.2.2.2.sub (L1 := [(jFl, jLs dC dI ca G0 3 none)]) [0] rfl), by first | omega | (refine ⟨?_, ?_⟩ <;> (first | omega | rfl | assumption | decide | exact Or.inl rfl | exact Or.inr rfl | (simp only; omega)))⟩⟩ rfl rfl hl.1 rfl (lv_room (Nat.le_of_ble_eq_true rfl)) dJx4a65c_add_9ea2d_20 ⟨by rw [hRc]; omega, by rw [hRs]; omega⟩) hh_7.1 (fun q _ h => h) (fun q h => h) (fun u_8 t_8 H_8 locs_8 ht_8 hvm_8 hr_9 hb_8 hz_8 hk_8 hS_8 => ?_)
    obtain ⟨qz_8, G_8⟩ := u_8
    rw [ht_8] at hb_8
    simp only at hb_8
    obtain ⟨⟨hb_81, hb_82, hb_83, hb_84, hb_85, hb_86⟩, hN_8, hbE_8⟩ := hb_8
    have hh_8 : jSt (dC, dI) B base G0 G_8 EJx4a65c_add_9ea2dL2 s.heap (0 + (1)) (0 + (40)) [(r0, 1, 2, .int qz_8), (r0, 1, 0, .int z_4)] [] [] H_8 locs_8 := (hh_7.callG hb_81 hb_82 hb_83 hb_84 hb_85 hS_8 rfl (L1 := [(r0, 1, 0, .int z_4)]) [1] rfl rfl (M1 := []) [] rfl rfl (I1 := []) [] rfl rfl).more hb_86
    have hNn_8 : (jNk [0, 1, 2, 3, 4, 5, 6, 7, 8, 9, 10, 11, 12, 13, 14, 15, 16]) G0 G_8 := (jNk.rf).tr hN_8
    have hg_10 := hb_82 _ _ hg_r0
    have hg_11 := hb_82 _ _ hg_r1
    have hh_12 := hh_8.addIs hbE_8
    try simp only at hr_9
    refine lv_iconst (v := 1) hx hb dJx4a65c_add_9ea2d_23 (by decide) ?_
    have hsz_13 := hh_12.2.2.2.2.2.1
    have htt_13 := hh_12.2.2.2.2.2.2.1
    refine W.room (fun hrc_13 hrs_13 => ?_)
    refine W.widen (k := LC - s.heap.size) (n := LS - jTot s.heap) (by omega) (by omega) ?_
    rw [hQ]
    exact W.zret (v := 1) hx hb hr (jb_nz (Or.inr rfl)) (fun t ht hW => ⟨⟨1, (qz_8, G_8), rfl, ⟨(Or.inr rfl), by (try dsimp only); first | omega | rfl | assumption | fail⟩, ⟨hh_12.ra (by first | omega | (simp only; omega)) (by first | omega | (simp only; omega)) (M1 := [(r0, 1, 2, .int qz_8)]) [0] rfl ht, hNn_8, by rw [ht]; exact hh_12.2.2.2.2.2.2.2.2.sub (L1 := [(jFl, jLs dC dI ca G_8 3 none)]) [0] rfl⟩⟩, by rw [ht]; try exact hh_12.1.1, fun q h9 hq => by rw [ht]; try exact hh_12.1.2.1 q h9 hq⟩) hh_12.1.2.2 dJx4a65c_add_9ea2d_24
  · skip
    have hh_14 := hh_5.more (P1 := [(r0, 1, 1, .ref lx_6)]) (jP.cons hg_r0 hl2_6 jP.nil)
    clear hh_5
    have hh_15 := hh_14.addI (jQc.ie hl7_6 hg_lx_6 (by decide) (by decide))
    clear hh_14
    refine lv_aload_n hx hb dJx4a65c_add_9ea2d_10 rfl (lv_at hl 0 rfl) ?_
    refine lv_aload_n hx hb dJx4a65c_add_9ea2d_11 rfl (lv_at hl 1 rfl) ?_
    refine lv_aload_n hx hb dJx4a65c_add_9ea2d_12 rfl (lv_at hl 0 rfl) ?_
    refine j7_read hx hb hown hK (C := RJx4a65c) (T := TJx4a65c) (N := 3) rfl hly_1_1 hlk_9 (hh_15.at 0 rfl) dJx4a65c_add_9ea2d_13 ?_
    refine lv_aload_n hx hb dJx4a65c_add_9ea2d_16 rfl (lv_at hl 0 rfl) ?_
    refine j7_read hx hb hown hK (C := RJx4a65c) (T := TJx4a65c) (N := 3) rfl hly_1_2 hlk_48 (hh_15.at 2 rfl) dJx4a65c_add_9ea2d_17 ?_
    have hsz_16 := hh_15.2.2.2.2.2.1
    have htt_16 := hh_15.2.2.2.2.2.2.1
    refine W.room (fun hrc_16 hrs_16 => ?_)
    refine va_callv (A0 := jA base) (H0 := s.heap) (va_runV (As := [.ref r1, .ref lx_6, .int lz]) (rest := []) ⟨hx, hb, hml, hown, hts⟩ (uJx4a65c_add_72be8L2 l dC dI ca base B hB hAp hB1 hB10 hB222 G0 H_5 r0 r1 lx_6 lz lm_6 lz LC LS) (cwV 3 hts (jgV (jWr_33 _ (List.mem_of_getElem? (i := 13) rfl)) (jWr_33 _ (List.mem_of_getElem? (i := 14) rfl)) (jWr_33 _ (List.mem_of_getElem? (i := 15) rfl)) (jWr_2 _ (List.mem_of_getElem? (i := 13) rfl)) (jWr_33 _ (List.mem_of_getElem? (i := 16) rfl))) rfl rfl rfl (by decide +kernel) ⟨by rw [← hR]; exact Nat.le_of_ble_eq_true rfl, by rw [← hR]; exact Nat.le_of_ble_eq_true rfl⟩) ⟨fun a U g mk q => by obtain ⟨q0, q1, q2, qK, q10, q11, q12, q13, q14, q15, q16⟩ := q; exact ⟨q0, q1, q2, jG.calling g mk a qK, (jK7.calling g mk a q10), q11, q12, q13, q14, q15, q16⟩, hh_15.recv (C := RJx4a65c) (T := TJx4a65c) (N := 3) hB1 rfl (by decide) hg_r0 hK, fun U hU hW => ⟨rfl, hU, hh_15.2.1, hG.step hW hU hh_15.1, (hK7.step hW hU hh_15.1), hg_r0, hg_r1, hg_lx_6, (hh_15.2.2.1.sub (L1 := [(r0, 1, 1, .ref lx_6), (r0, 1, 2, .int lz)]) [0, 2] rfl), (hh_15.2.2.2.2.2.2.2.2.sub (L1 := [(jFl, jLs dC dI ca G0 3 none)]) [1] rfl), by first | omega | (refine ⟨?_, ?_, ?_, ?_⟩ <;> (first | omega | rfl | assumption | decide | exact Or.inl rfl | exact Or.inr rfl | (simp only; omega)))⟩⟩ rfl rfl hl.1 rfl (lv_room (Nat.le_of_ble_eq_true rfl)) dJx4a65c_add_9ea2d_20 ⟨by rw [hRc]; omega, by rw [hRs]; omega⟩) hh_15.1 (fun q _ h => h) (fun q h => h) (fun u_16 t_16 H_16 locs_16 ht_16 hvm_16 hr_17 hb_16 hz_16 hk_16 hS_16 => ?_)
    obtain ⟨qz_16, G_16⟩ := u_16
    rw [ht_16] at hb_16
    simp only at hb_16
    obtain ⟨⟨hb_161, hb_162, hb_163, hb_164, hb_165, hb_166⟩, hN_16, hbE_16⟩ := hb_16
    have hh_16 : jSt (dC, dI) B base G0 G_16 EJx4a65c_add_9ea2dL2 s.heap (0 + (1)) (0 + (40)) [(r0, 1, 2, .int qz_16), (r0, 1, 0, .int z_4)] [] [] H_16 locs_16 := (hh_15.callG hb_161 hb_162 hb_163 hb_164 hb_165 hS_16 rfl (L1 := [(r0, 1, 0, .int z_4)]) [1] rfl rfl (M1 := []) [] rfl rfl (I1 := []) [] rfl rfl).more hb_166
    have hNn_16 : (jNk [0, 1, 2, 3, 4, 5, 6, 7, 8, 9, 10, 11, 12, 13, 14, 15, 16]) G0 G_16 := (jNk.rf).tr hN_16
    have hg_18 := hb_162 _ _ hg_r0
    have hg_19 := hb_162 _ _ hg_r1
    have hh_20 := hh_16.addIs hbE_16
    try simp only at hr_17
    refine lv_iconst (v := 1) hx hb dJx4a65c_add_9ea2d_23 (by decide) ?_
    have hsz_21 := hh_20.2.2.2.2.2.1
    have htt_21 := hh_20.2.2.2.2.2.2.1
    refine W.room (fun hrc_21 hrs_21 => ?_)
    refine W.widen (k := LC - s.heap.size) (n := LS - jTot s.heap) (by omega) (by omega) ?_
    rw [hQ]
    exact W.zret (v := 1) hx hb hr (jb_nz (Or.inr rfl)) (fun t ht hW => ⟨⟨1, (qz_16, G_16), rfl, ⟨(Or.inr rfl), by (try dsimp only); first | omega | rfl | assumption | fail⟩, ⟨hh_20.ra (by first | omega | (simp only; omega)) (by first | omega | (simp only; omega)) (M1 := [(r0, 1, 2, .int qz_16)]) [0] rfl ht, hNn_16, by rw [ht]; exact hh_20.2.2.2.2.2.2.2.2.sub (L1 := [(jFl, jLs dC dI ca G_16 3 none)]) [0] rfl⟩⟩, by rw [ht]; try exact hh_20.1.1, fun q h9 hq => by rw [ht]; try exact hh_20.1.2.1 q h9 hq⟩) hh_20.1.2.2 dJx4a65c_add_9ea2d_24
end
section
theorem dX11_reply_0 : decode cX11_reply 0 = .ok (.aload_n 1, 1) := by decide +kernel
theorem dX11_reply_1 : decode cX11_reply 1 = .ok (.getfield 432, 3) := by decide +kernel
theorem dX11_reply_4 : decode cX11_reply 4 = .ok (.ifnonnull 13, 3) := by decide +kernel
theorem dX11_reply_7 : decode cX11_reply 7 = .ok (.aload_n 0, 1) := by decide +kernel
theorem dX11_reply_8 : decode cX11_reply 8 = .ok (.getfield 41, 3) := by decide +kernel
theorem dX11_reply_11 : decode cX11_reply 11 = .ok (.getfield 217, 3) := by decide +kernel
theorem dX11_reply_14 : decode cX11_reply 14 = .ok (.goto 21, 3) := by decide +kernel
theorem dX11_reply_17 : decode cX11_reply 17 = .ok (.aload_n 1, 1) := by decide +kernel
theorem dX11_reply_18 : decode cX11_reply 18 = .ok (.getfield 432, 3) := by decide +kernel
theorem dX11_reply_21 : decode cX11_reply 21 = .ok (.aload_n 1, 1) := by decide +kernel
theorem dX11_reply_22 : decode cX11_reply 22 = .ok (.getfield 438, 3) := by decide +kernel
theorem dX11_reply_25 : decode cX11_reply 25 = .ok (.aload_n 0, 1) := by decide +kernel
theorem dX11_reply_26 : decode cX11_reply 26 = .ok (.getfield 41, 3) := by decide +kernel
theorem dX11_reply_29 : decode cX11_reply 29 = .ok (.getfield 217, 3) := by decide +kernel
theorem dX11_reply_32 : decode cX11_reply 32 = .ok (.invokevirtual 221, 3) := by decide +kernel
theorem dX11_reply_35 : decode cX11_reply 35 = .ok (.astore_n 2, 1) := by decide +kernel
theorem dX11_reply_36 : decode cX11_reply 36 = .ok (.aload_n 0, 1) := by decide +kernel
theorem dX11_reply_37 : decode cX11_reply 37 = .ok (.aload_n 1, 1) := by decide +kernel
theorem dX11_reply_38 : decode cX11_reply 38 = .ok (.ldc_w 289, 3) := by decide +kernel
theorem dX11_reply_41 : decode cX11_reply 41 = .ok (.invokevirtual 291, 3) := by decide +kernel
theorem dX11_reply_44 : decode cX11_reply 44 = .ok (.aload_n 1, 1) := by decide +kernel
theorem dX11_reply_45 : decode cX11_reply 45 = .ok (.getfield 443, 3) := by decide +kernel
theorem dX11_reply_48 : decode cX11_reply 48 = .ok (.ifCond .eq 22, 3) := by decide +kernel
theorem dX11_reply_51 : decode cX11_reply 51 = .ok (.aload_n 0, 1) := by decide +kernel
theorem dX11_reply_52 : decode cX11_reply 52 = .ok (.getfield 54, 3) := by decide +kernel
theorem dX11_reply_55 : decode cX11_reply 55 = .ok (.aload_n 2, 1) := by decide +kernel
theorem dX11_reply_56 : decode cX11_reply 56 = .ok (.aload_n 1, 1) := by decide +kernel
theorem dX11_reply_57 : decode cX11_reply 57 = .ok (.getfield 451, 3) := by decide +kernel
theorem dX11_reply_60 : decode cX11_reply 60 = .ok (.aload_n 0, 1) := by decide +kernel
theorem dX11_reply_61 : decode cX11_reply 61 = .ok (.getfield 35, 3) := by decide +kernel
theorem dX11_reply_64 : decode cX11_reply 64 = .ok (.invokevirtual 460, 3) := by decide +kernel
theorem dX11_reply_67 : decode cX11_reply 67 = .ok (.goto 15, 3) := by decide +kernel
theorem dX11_reply_70 : decode cX11_reply 70 = .ok (.aload_n 0, 1) := by decide +kernel
theorem dX11_reply_71 : decode cX11_reply 71 = .ok (.getfield 54, 3) := by decide +kernel
theorem dX11_reply_74 : decode cX11_reply 74 = .ok (.aload_n 2, 1) := by decide +kernel
theorem dX11_reply_75 : decode cX11_reply 75 = .ok (.aload_n 0, 1) := by decide +kernel
theorem dX11_reply_76 : decode cX11_reply 76 = .ok (.getfield 35, 3) := by decide +kernel
theorem dX11_reply_79 : decode cX11_reply 79 = .ok (.invokevirtual 242, 3) := by decide +kernel
theorem dX11_reply_82 : decode cX11_reply 82 = .ok (.aload_n 0, 1) := by decide +kernel
theorem dX11_reply_83 : decode cX11_reply 83 = .ok (.getfield 35, 3) := by decide +kernel
theorem dX11_reply_86 : decode cX11_reply 86 = .ok (.bipush 125, 2) := by decide +kernel
theorem dX11_reply_88 : decode cX11_reply 88 = .ok (.invokevirtual 246, 3) := by decide +kernel
theorem dX11_reply_91 : decode cX11_reply 91 = .ok (.aload_n 0, 1) := by decide +kernel
theorem dX11_reply_92 : decode cX11_reply 92 = .ok (.invokevirtual 300, 3) := by decide +kernel
theorem dX11_reply_95 : decode cX11_reply 95 = .ok (.return_, 1) := by decide +kernel
def EX11_reply : List (Nat × Nat) := [(2, 0), (2, 1), (9, 2), (13, 14), (196, 0), (286, 0), (287, 0), (288, 0)]
set_option maxHeartbeats 4000000 in
set_option maxRecDepth 20000 in
theorem uX11_reply (l : Launch) (dC : Nat → ClassId) (dI : Nat → Nat → Nat) (ca : Nat → ClassId) (base : Nat) (B : jF) (hB : jBok B) (hAp : jAp (dC, dI)) (hB2 : ∀ n G a H, B 2 n G a H ↔ jOb (dC, dI) 2 2 (F2 n G) a H) (hB3 : ∀ n G a H, B 3 n G a H ↔ jOb (dC, dI) 3 17 (F3 n G) a H) (hB4 : ∀ n G a H, B 4 n G a H ↔ jOb (dC, dI) 4 12 (F4 n G) a H) (hB5 : ∀ n G a H, B 5 n G a H ↔ jOb (dC, dI) 5 4 (F5 n G) a H) (hB7 : ∀ n G a H, B 7 n G a H ↔ jOb (dC, dI) 7 11 (F7 n G) a H) (hB8 : ∀ n G a H, B 8 n G a H ↔ jOb (dC, dI) 8 4 (F8 n G) a H) (hB9 : ∀ n G a H, B 9 n G a H ↔ jOb (dC, dI) 9 5 (F9b n G) a H) (hB10 : ∀ n G a H, B 10 n G a H ↔ jOb (dC, dI) 10 5 (F10 n G) a H) (hB11 : ∀ n G a H, B 11 n G a H ↔ jOb (dC, dI) 11 9 (F11 n G) a H) (hB13 : ∀ n G a H, B 13 n G a H ↔ jOb (dC, dI) 13 19 (F13 n G) a H) (hB101 : ∀ n G a H, B 101 n G a H ↔ jAr (dC, dI) (ca 1) (fun j z => True) n a H) (hB102 : ∀ n G a H, B 102 n G a H ↔ jAl (dC, dI) (ca 2) n a H) (hB132 : ∀ n G a H, B 132 n G a H ↔ jAr (dC, dI) (ca 1) (fun j z => 0 ≤ z.toInt ∧ z.toInt ≤ 10) n a H) (hB196 : ∀ n G a H, B 196 n G a H ↔ jAr (dC, dI) (ca 0) (fun j z => jBf j z) n a H) (hB210 : ∀ n G a H, B 210 n G a H ↔ jAq (dC, dI) (ca 6) (jQn 11 0) n G a H) (hB214 : ∀ n G a H, B 214 n G a H ↔ jAq (dC, dI) (ca 7) (jQg) n G a H) (hB280 : ∀ n G a H, B 280 n G a H ↔ jAr (dC, dI) (ca 1) (fun j z => -1 ≤ z.toInt) n a H) (hB286 : ∀ n G a H, B 286 n G a H ↔ jAr (dC, dI) (ca 1) (fun j z => (0 ≤ z.toInt ∨ z.toInt = -3)) n a H) (hB287 : ∀ n G a H, B 287 n G a H ↔ jAr (dC, dI) (ca 1) (fun j z => 0 ≤ z.toInt ∧ z.toInt ≤ 65535) n a H) (hB288 : ∀ n G a H, B 288 n G a H ↔ jAr (dC, dI) (ca 1) (fun j z => 0 ≤ z.toInt ∧ z.toInt ≤ 160) n a H) (hB313 : ∀ n G a H, B 313 n G a H ↔ jAq (dC, dI) (ca 8) (jQk 280 80) n G a H) (G0 : jT) (H0 : Heap) (r0 : Nat) (r1 : Nat) (bo : Nat) (pc : Int32) (pa : Nat) (n_pa : Nat) (ou : Nat) (LC LS : Nat) : Met l yX11_reply (jw yX11_reply cX11_reply 3 none) ({ frames := 7, cells := LC - H0.size, slots := LS - jTot H0, locals := 219 }) (va_Pc [.ref r0, .ref r1] (fun U => U.heap = H0 ∧ jX B base G0 [] H0 ∧ jG dC dI ca base U ∧ jK2 dC dI ca U ∧ jK5 dC dI ca U ∧ G0 r0 = some (13, 0) ∧ G0 r1 = some (10, 0) ∧ G0 bo = some (2, 0) ∧ G0 pa = some (196, n_pa) ∧ G0 ou = some (2, 20000) ∧ jP (dC, dI) G0 H0 [(r0, 13, 4, .ref bo), (bo, 2, 1, .int pc), (bo, 2, 0, .ref pa), (r0, 13, 3, .ref ou)] ∧ jIs (dC, dI) G0 H0 [(jFy, jYb dC dI G0), (jFs11, jSef dC dI G0)] ∧ H0.size + (1048576 - n_pa) / 16 + 1 ≤ LC ∧ jTot H0 + 2 * (1048576 - n_pa) ≤ LS ∧ 0 ≤ pc.toInt ∧ pc.toInt ≤ n_pa ∧ 16 ≤ n_pa ∧ n_pa ≤ 1048576 ∧ jPw n_pa)) (va_Qv (S := Int32 × Nat × Nat × jT) (fun u => 0 ≤ u.1.toInt ∧ u.1.toInt ≤ u.2.2.1 ∧ n_pa ≤ u.2.2.1 ∧ u.2.2.1 ≤ 1048576 ∧ jPw u.2.2.1) (fun u t => jRa (dC, dI) B base G0 u.2.2.2 EX11_reply H0 ((u.2.2.1 - n_pa) / 16) (2 * (u.2.2.1 - n_pa)) [(bo, 2, 1, .int u.1), (bo, 2, 0, .ref u.2.1)] t.heap ∧ u.2.2.2 u.2.1 = some (196, u.2.2.1) ∧ (jNk [0, 1, 2, 3, 4, 5, 6, 7, 8, 9, 10, 11, 12, 13, 14, 15, 16]) G0 u.2.2.2 ∧ jOl (dC, dI) G0 2 [bo, ou] H0 t.heap ∧ jIs (dC, dI) u.2.2.2 t.heap [(jFy, jYb dC dI u.2.2.2), (jFs11, jSef dC dI u.2.2.2)]) (jA base)) (LC - H0.size) (LS - jTot H0) (jA base) := by
  refine Met.ofW (cc := cX11_reply) (maxL := 3) (ret := none) (by decide) rfl ?_
  intro p e s m args below meth c s₁ Bd hml hv
  obtain ⟨rfl, hH0, hX, hG, hK2, hK5, hg_r0, hg_r1, hg_bo, hg_pa, hg_ou, hP0, hI0, hLC0, hLS0, hp0, hp1, hp2, hp3, hp4⟩ := hv
  have hK := hG.1
  have hx := Bd.exec
  have hb := Bd.bytes
  have hr := Bd.returns
  have hts := atoms_spec (ws := (jw yX11_reply cX11_reply 3 none)) Bd.pre
  have htw : ∀ w ∈ jWl, w.before _ s = true := fun w h => hts w (List.mem_cons_of_mem _ h)
  have hown : s.vm.findClass RX11 = some m.cls := findClass_of_methodNamed Bd.named
  have hlocks := Bd.notSynchronized
  obtain ⟨Q, hQ⟩ : ∃ Q, Q = MQ below (va_Qv (S := Int32 × Nat × Nat × jT) (fun u => 0 ≤ u.1.toInt ∧ u.1.toInt ≤ u.2.2.1 ∧ n_pa ≤ u.2.2.1 ∧ u.2.2.1 ≤ 1048576 ∧ jPw u.2.2.1) (fun u t => jRa (dC, dI) B base G0 u.2.2.2 EX11_reply H0 ((u.2.2.1 - n_pa) / 16) (2 * (u.2.2.1 - n_pa)) [(bo, 2, 1, .int u.1), (bo, 2, 0, .ref u.2.1)] t.heap ∧ u.2.2.2 u.2.1 = some (196, u.2.2.1) ∧ (jNk [0, 1, 2, 3, 4, 5, 6, 7, 8, 9, 10, 11, 12, 13, 14, 15, 16]) G0 u.2.2.2 ∧ jOl (dC, dI) G0 2 [bo, ou] H0 t.heap ∧ jIs (dC, dI) u.2.2.2 t.heap [(jFy, jYb dC dI u.2.2.2), (jFs11, jSef dC dI u.2.2.2)]) (jA base)) ([.ref r0, .ref r1] : List Value).toArray s (LC - H0.size) (LS - jTot H0) (jA base) := ⟨_, rfl⟩
  rw [← hQ]
  have hl := lv_entry ([.ref r0, .ref r1]) (n := 3) (Nat.le_of_ble_eq_true rfl)
  rw [lg_entry_eq]
  generalize (lg_sl ([.ref r0, .ref r1]) ++ List.replicate (3 - (lg_sl ([.ref r0, .ref r1])).length) Slot.unset).toArray = ls at hl ⊢
  have hl : lv_has ls 3 [(0, .ref r0), (1, .ref r1)] := hl
  generalize hR : (headSpec (jw yX11_reply cX11_reply 3 none) ({ frames := 7, cells := LC - H0.size, slots := LS - jTot H0, locals := 219 })).room = R
  subst hH0
  have hh : jSt (dC, dI) B base G0 G0 EX11_reply s.heap 0 0 [(r0, 13, 4, .ref bo), (bo, 2, 1, .int pc), (bo, 2, 0, .ref pa), (r0, 13, 3, .ref ou)] [] [(jFy, jYb dC dI G0), (jFs11, jSef dC dI G0)] s.heap [] := jSt.start hX hP0 jMc.nil hI0
  clear hX hP0
  have hk0 : (0 : Int32).toInt = 0 := by decide
  have hk1 : (1 : Int32).toInt = 1 := by decide
  have hk125 : (125 : Int32).toInt = 125 := by decide
  have hly_7_2 := htw (u_lay RX5 TX5 2) (jWc_wsX50 _ (u_in_lay (by decide)))
  have hly_10_1 := htw (u_lay RX8 TX8 1) (jWc_wsX80 _ (u_in_lay (by decide)))
  have hly_10_2 := htw (u_lay RX8 TX8 2) (jWc_wsX80 _ (u_in_lay (by decide)))
  have hly_10_3 := htw (u_lay RX8 TX8 3) (jWc_wsX80 _ (u_in_lay (by decide)))
  have hly_10_4 := htw (u_lay RX8 TX8 4) (jWc_wsX80 _ (u_in_lay (by decide)))
  have hly_13_4 := htw (u_lay RX11 TX11 4) (jWc_wsX110 _ (u_in_lay (by decide)))
  have hly_13_5 := htw (u_lay RX11 TX11 5) (jWc_wsX110 _ (u_in_lay (by decide)))
  have hly_13_6 := htw (u_lay RX11 TX11 6) (jWc_wsX110 _ (u_in_lay (by decide)))
  have hlk_432 := (htw (.fieldLink RX11 432 "ProofServer$Request" "about" "LProofServer$Document;") (jWr_27 _ (List.mem_of_getElem? (i := 14) rfl)))
  have hlk_41 := (htw (.fieldLink RX11 41 "ProofServer" "kernel" "LProofServer$Kernel;") (jWr_2 _ (List.mem_of_getElem? (i := 5) rfl)))
  have hlk_217 := (htw (.fieldLink RX11 217 "ProofServer$Kernel" "start" "LProofServer$State;") (jWr_30 _ (List.mem_of_getElem? (i := 6) rfl)))
  have hlk_438 := (htw (.fieldLink RX11 438 "ProofServer$Request" "needed" "I") (jWr_27 _ (List.mem_of_getElem? (i := 15) rfl)))
  obtain ⟨str289, rstr289, hstr2890⟩ := hG.str (o := RX11) (k := 289) (tx := ",\"result\":") (List.mem_of_getElem? (i := 866) (by decide +kernel))
  have hstr289 : jStr base str289 10 s s.heap := hstr2890
  have hlk_443 := (htw (.fieldLink RX11 443 "ProofServer$Request" "isStatement" "Z") (jWr_30 _ (List.mem_of_getElem? (i := 7) rfl)))
  have hlk_54 := (htw (.fieldLink RX11 54 "ProofServer" "printer" "LProofServer$Printer;") (jWr_2 _ (List.mem_of_getElem? (i := 10) rfl)))
  have hlk_451 := (htw (.fieldLink RX11 451 "ProofServer$Request" "name" "I") (jWr_30 _ (List.mem_of_getElem? (i := 8) rfl)))
  have hlk_35 := (htw (.fieldLink RX11 35 "ProofServer" "body" "LProofServer$Bytes;") (jWr_2 _ (List.mem_of_getElem? (i := 1) rfl)))
  have hbs : base ≤ s.heap.size := Nat.le_of_lt (Nat.lt_of_le_of_lt (hh.ab hg_r0).1 (hh.ab hg_r0).2)
  have hRc : R.cells = LC - s.heap.size := by rw [← hR]; rfl
  have hRs : R.slots = LS - jTot s.heap := by rw [← hR]; rfl
  have hh_1 := hh.addI (jOl.ie (dC := dC) (dI := dI) (G0 := G0) (k := 2) (rs := [bo, ou]) (H0 := s.heap) (F := [(2, 0), (2, 1)]) (C := RX0) (T := TX0) (N := 2) rfl (by decide) hh.2.2.2.2.1 (jOl.rf))
  clear hh
  refine lv_aload_n hx hb dX11_reply_0 rfl (lv_at hl 1 rfl) ?_
  obtain ⟨v_2, hv_2, hh_3⟩ := hh_1.pin (C := RX8) (T := TX8) (N := 5) hB10 rfl (by decide) hg_r1 (i := 1) (by decide) rfl
  clear hh_1
  rcases hv_2 with rfl | ⟨about_4, rfl, hg_about_4⟩
  · refine j7_read hx hb hown hK (C := RX8) (T := TX8) (N := 5) rfl hly_10_1 hlk_432 (hh_3.at 0 rfl) dX11_reply_1 ?_
    refine lv_ifnonnullN hx hb dX11_reply_4 ?_
    refine lv_aload_n hx hb dX11_reply_7 rfl (lv_at hl 0 rfl) ?_
    obtain ⟨v_5, hv_5, hh_6⟩ := hh_3.pin (C := RX11) (T := TX11) (N := 19) hB13 rfl (by decide) hg_r0 (i := 5) (by decide) rfl
    clear hh_3
    obtain ⟨kernel_7, rfl, hg_kernel_7⟩ := hv_5
    refine j7_read hx hb hown hK (C := RX11) (T := TX11) (N := 19) rfl hly_13_5 hlk_41 (hh_6.at 0 rfl) dX11_reply_8 ?_
    obtain ⟨v_8, hv_8, hh_9⟩ := hh_6.pin (C := RX5) (T := TX5) (N := 11) hB7 rfl (by decide) hg_kernel_7 (i := 2) (by decide) rfl
    clear hh_6
    obtain ⟨start_10, rfl, hg_start_10⟩ := hv_8
    refine j7_read hx hb hown hK (C := RX5) (T := TX5) (N := 11) rfl hly_7_2 hlk_217 (hh_9.at 0 rfl) dX11_reply_11 ?_
    refine lv_goto (tgt := 35) hx hb dX11_reply_14 (by decide) ?_
    refine lv_astore_n (lv' := [(2, .ref start_10), (0, .ref r0), (1, .ref r1)]) hx hb dX11_reply_35 rfl hl (by decide) rfl (fun ls hl => ?_)
    refine lv_aload_n hx hb dX11_reply_36 rfl (lv_at hl 1 rfl) ?_
    refine lv_aload_n hx hb dX11_reply_37 rfl (lv_at hl 2 rfl) ?_
    refine j_ldcSw hx hb hown rstr289 dX11_reply_38 ?_
    have hsz_11 := hh_9.2.2.2.2.2.1
    have htt_11 := hh_9.2.2.2.2.2.2.1
    refine W.room (fun hrc_11 hrs_11 => ?_)
    refine va_callv (A0 := jA base) (H0 := s.heap) (va_runV (As := [.ref r1, .ref str289]) (rest := []) ⟨hx, hb, hml, hown, hts⟩ (uX11_beginAnswer l dC dI ca base B hB hAp hB2 hB10 hB13 hB196 G0 s.heap r0 r1 str289 10 bo pc pa n_pa LC LS) (cwV 2 hts (jgV (jWr_26 _ (List.mem_of_getElem? (i := 7) rfl)) (jWr_26 _ (List.mem_of_getElem? (i := 8) rfl)) (jWr_26 _ (List.mem_of_getElem? (i := 9) rfl)) (jWr_1 _ (List.mem_of_getElem? (i := 2) rfl)) (jWr_26 _ (List.mem_of_getElem? (i := 10) rfl))) rfl rfl rfl (by decide +kernel) ⟨by rw [← hR]; exact Nat.le_of_ble_eq_true rfl, by rw [← hR]; exact Nat.le_of_ble_eq_true rfl⟩) ⟨fun a U g mk q => by obtain ⟨q0, q1, q2, qK, q10, q11, q12, q13, q14, q15, q16, q17⟩ := q; exact ⟨q0, q1, q2, jG.calling g mk a qK, (q10.moved (Vm.Alike.refl U.vm)), q11, q12, q13, q14, q15, q16, q17⟩, hh_9.recv (C := RX11) (T := TX11) (N := 19) hB13 rfl (by decide) hg_r0 hK, fun U hU hW => ⟨rfl, hU, hh_9.2.1, hG.step hW hU hh_9.1, (hstr289.moved hW.alike).kept hh_9.1.2.1, hg_r1, hg_r0, hg_bo, hg_pa, (hh_9.2.2.1.sub (L1 := [(r0, 13, 4, .ref bo), (bo, 2, 1, .int pc), (bo, 2, 0, .ref pa)]) [3, 4, 5] rfl), (hh_9.2.2.2.2.2.2.2.2.sub (L1 := [(jFy, jYb dC dI G0)]) [1] rfl), (by omega), (by omega), ⟨(by first | omega | rfl | assumption | fail), (by first | omega | rfl | assumption | fail), (by first | omega | rfl | assumption | fail), (by first | omega | rfl | assumption | fail), (by first | assumption | fail | omega), (by first | omega | rfl | assumption | fail)⟩⟩⟩ rfl rfl hl.1 rfl (lv_room (Nat.le_of_ble_eq_true rfl)) dX11_reply_41 ⟨by rw [hRc]; omega, by rw [hRs]; omega⟩) hh_9.1 (fun q _ h => h) (fun q h => h) (fun u_11 t_11 H_11 locs_11 ht_11 hvm_11 hr_12 hb_11 hz_11 hk_11 hS_11 => ?_)
    obtain ⟨qc_11, qa_11, m_qa_11, G_11⟩ := u_11
    rw [ht_11] at hb_11
    simp only at hb_11
    obtain ⟨⟨hb_111, hb_112, hb_113, hb_114, hb_115, hb_116⟩, hgq_11_0, hN_11, hbO_11, hbE_11⟩ := hb_11
    have hh_11 : jSt (dC, dI) B base G0 G_11 EX11_reply s.heap (0 + ((m_qa_11 - n_pa) / 16)) (0 + (2 * (m_qa_11 - n_pa))) [(bo, 2, 1, .int qc_11), (bo, 2, 0, .ref qa_11), (kernel_7, 7, 2, .ref start_10), (r0, 13, 5, .ref kernel_7), (r1, 10, 1, .null), (r0, 13, 4, .ref bo), (r0, 13, 3, .ref ou)] [] [(jFs11, jSef dC dI G0)] H_11 locs_11 := (hh_9.callG hb_111 hb_112 hb_113 hb_114 hb_115 hS_11 rfl (L1 := [(kernel_7, 7, 2, .ref start_10), (r0, 13, 5, .ref kernel_7), (r1, 10, 1, .null), (r0, 13, 4, .ref bo), (r0, 13, 3, .ref ou)]) [0, 1, 2, 3, 6] rfl rfl (M1 := []) [] rfl rfl (I1 := [(jFs11, jSef dC dI G0)]) [2] rfl rfl).more hb_116
    have hNn_11 : (jNk [0, 1, 2, 3, 4, 5, 6, 7, 8, 9, 10, 11, 12, 13, 14, 15, 16]) G0 G_11 := (jNk.rf).tr hN_11
    have hg_13 := hb_112 _ _ hg_start_10
    have hg_14 := hb_112 _ _ hg_r0
    have hg_15 := hb_112 _ _ hg_r1
    have hg_16 := hb_112 _ _ hg_kernel_7
    have hg_17 := hb_112 _ _ hg_bo
    have hg_18 := hb_112 _ _ hg_ou
    have hd_19 := jSef.grow (hh_11.iv 0 rfl) hb_112 hN_11 (by decide)
    have hh_20 := hh_11.sub (L1 := [(bo, 2, 1, .int qc_11), (bo, 2, 0, .ref qa_11), (kernel_7, 7, 2, .ref start_10), (r0, 13, 5, .ref kernel_7), (r1, 10, 1, .null), (r0, 13, 4, .ref bo), (r0, 13, 3, .ref ou)]) [0, 1, 2, 3, 4, 5, 6] rfl (M1 := []) [] rfl (I1 := []) [] rfl
    clear hh_11
    have hh_21 := hh_20.addI (jSef.ie hd_19)
    clear hh_20
    have hh_22 := hh_21.addIs hbE_11
    have hd_23 := jOl.trL (hh_9.iv 0 rfl) hh_9.2.2.2.2.1 hbO_11 (by simp)
    have hh_24 := hh_22.addI (jOl.ie (dC := dC) (dI := dI) (G0 := G0) (k := 2) (rs := [bo, ou]) (H0 := s.heap) (F := [(2, 0), (2, 1)]) (C := RX0) (T := TX0) (N := 2) rfl (by decide) hh_22.2.2.2.2.1 (hd_23))
    clear hh_22
    try simp only at hr_12
    obtain ⟨hr_12_0, hr_12_1, hr_12_2, hr_12_3, hr_12_4⟩ := hr_12
    have hh_25 := hh_24.wk (zc1 := (m_qa_11 - n_pa) / 16) (zs1 := 2 * (m_qa_11 - n_pa)) (by omega) (by omega)
    clear hh_24
    try clear hsz_11 htt_11 hrc_11 hrs_11
    try clear hb_114 hb_115
    refine lv_aload_n hx hb dX11_reply_44 rfl (lv_at hl 2 rfl) ?_
    obtain ⟨v_26, hv_26, hh_27⟩ := hh_25.pin (C := RX8) (T := TX8) (N := 5) hB10 rfl (by decide) hg_15 (i := 3) (by decide) rfl
    clear hh_25
    obtain ⟨isStatement_28, rfl, hzisStatement_28⟩ := hv_26
    have hzisStatement_28' := jb_01 hzisStatement_28
    refine j7_read hx hb hown hK (C := RX8) (T := TX8) (N := 5) rfl hly_10_3 hlk_443 (hh_27.at 0 rfl) dX11_reply_45 ?_
    refine lv_if_eq (tgt := 70) hx hb dX11_reply_48 (by decide) (fun c_29 => ?_) (fun c_29 => ?_)
    · skip
      have c_29' : isStatement_28.toInt = 0 := jb_eq (rfl) ((by decide)) c_29
      refine lv_aload_n hx hb dX11_reply_70 rfl (lv_at hl 1 rfl) ?_
      obtain ⟨v_30, hv_30, hh_31⟩ := hh_27.pin (C := RX11) (T := TX11) (N := 19) hB13 rfl (by decide) hg_14 (i := 6) (by decide) rfl
      clear hh_27
      obtain ⟨printer_32, rfl, hg_printer_32⟩ := hv_30
      refine j7_read hx hb hown hK (C := RX11) (T := TX11) (N := 19) rfl hly_13_6 hlk_54 (hh_31.at 0 rfl) dX11_reply_71 ?_
      refine lv_aload_n hx hb dX11_reply_74 rfl (lv_at hl 0 rfl) ?_
      refine lv_aload_n hx hb dX11_reply_75 rfl (lv_at hl 1 rfl) ?_
      refine j7_read hx hb hown hK (C := RX11) (T := TX11) (N := 19) rfl hly_13_4 hlk_35 (hh_31.at 7 rfl) dX11_reply_76 ?_
      have hsz_33 := hh_31.2.2.2.2.2.1
      have htt_33 := hh_31.2.2.2.2.2.2.1
      refine W.room (fun hrc_33 hrs_33 => ?_)
      refine va_callv (A0 := jA base) (H0 := s.heap) (va_runV (As := [.ref start_10, .ref bo]) (rest := []) ⟨hx, hb, hml, hown, hts⟩ (uX7_proof l dC dI ca base B hB hAp hB2 hB5 hB8 hB9 hB11 hB101 hB102 hB132 hB196 hB214 hB280 hB286 hB287 hB288 hB313 G_11 H_11 printer_32 start_10 bo qc_11 qa_11 m_qa_11 LC LS) (cwV 2 hts (jgV (jWr_32 _ (List.mem_of_getElem? (i := 21) rfl)) (jWr_32 _ (List.mem_of_getElem? (i := 22) rfl)) (jWr_32 _ (List.mem_of_getElem? (i := 23) rfl)) (jWr_2 _ (List.mem_of_getElem? (i := 8) rfl)) (jWr_33 _ (List.mem_of_getElem? (i := 0) rfl))) rfl rfl rfl (by decide +kernel) ⟨by rw [← hR]; exact Nat.le_of_ble_eq_true rfl, by rw [← hR]; exact Nat.le_of_ble_eq_true rfl⟩) ⟨fun a U g mk q => by obtain ⟨q0, q1, q2, qK, q10, q11, q12, q13, q14, q15, q16, q17⟩ := q; exact ⟨q0, q1, q2, jG.calling g mk a qK, (va_K.moved (Vm.Alike.refl U.vm) q10), (jK5.moved (Vm.Alike.refl U.vm) q11), q12, q13, q14, q15, q16, q17⟩, hh_31.recv (C := RX7) (T := TX7) (N := 5) hB9 rfl (by decide) hg_printer_32 hK, fun U hU hW => ⟨rfl, hU, hh_31.2.1, hG.step hW hU hh_31.1, va_K.moved hW.alike hK2, jK5.moved hW.alike hK5, hg_17, hg_13, hg_printer_32, hgq_11_0, (hh_31.2.2.1.sub (L1 := [(bo, 2, 1, .int qc_11), (bo, 2, 0, .ref qa_11)]) [2, 3] rfl), (by omega), (by omega), ⟨(by first | omega | rfl | assumption | fail), (by first | omega | rfl | assumption | fail), (by first | omega | rfl | assumption | fail), (by first | omega | rfl | assumption | fail), (by first | assumption | fail | omega)⟩⟩⟩ rfl rfl hl.1 rfl (lv_room (Nat.le_of_ble_eq_true rfl)) dX11_reply_79 ⟨by rw [hRc]; omega, by rw [hRs]; omega⟩) hh_31.1 (fun q _ h => h) (fun q h => h) (fun u_33 t_33 H_33 locs_33 ht_33 hvm_33 hr_34 hb_33 hz_33 hk_33 hS_33 => ?_)
      obtain ⟨qc_33, qa_33, m_qa_33, G_33⟩ := u_33
      rw [ht_33] at hb_33
      simp only at hb_33
      obtain ⟨⟨hb_331, hb_332, hb_333, hb_334, hb_335, hb_336⟩, hgq_33_0, hN_33, hbO_33⟩ := hb_33
      have hy_35 := hh_31.iv 1 rfl
      have hh_33 : jSt (dC, dI) B base G0 G_33 EX11_reply s.heap (((m_qa_11 - n_pa) / 16) + ((m_qa_33 - m_qa_11) / 16)) ((2 * (m_qa_11 - n_pa)) + (2 * (m_qa_33 - m_qa_11))) [(bo, 2, 1, .int qc_33), (bo, 2, 0, .ref qa_33), (r0, 13, 6, .ref printer_32), (r1, 10, 3, .int isStatement_28), (kernel_7, 7, 2, .ref start_10), (r0, 13, 5, .ref kernel_7), (r1, 10, 1, .null), (r0, 13, 4, .ref bo), (r0, 13, 3, .ref ou)] [] [(jFs11, jSef dC dI G_11)] H_33 locs_33 := (hh_31.callG hb_331 hb_332 hb_333 hb_334 hb_335 hS_33 rfl (L1 := [(r0, 13, 6, .ref printer_32), (r1, 10, 3, .int isStatement_28), (kernel_7, 7, 2, .ref start_10), (r0, 13, 5, .ref kernel_7), (r1, 10, 1, .null), (r0, 13, 4, .ref bo), (r0, 13, 3, .ref ou)]) [0, 1, 4, 5, 6, 7, 8] rfl rfl (M1 := []) [] rfl rfl (I1 := [(jFs11, jSef dC dI G_11)]) [2] rfl rfl).more hb_336
      have hNn_33 : (jNk [0, 1, 2, 3, 4, 5, 6, 7, 8, 9, 10, 11, 12, 13, 14, 15, 16]) G0 G_33 := (hNn_11).tr hN_33
      have hg_36 := hb_332 _ _ hg_13
      have hg_37 := hb_332 _ _ hg_14
      have hg_38 := hb_332 _ _ hg_15
      have hg_39 := hb_332 _ _ hg_printer_32
      have hg_40 := hb_332 _ _ hg_16
      have hg_41 := hb_332 _ _ hg_17
      have hg_42 := hb_332 _ _ hg_18
      have hd_43 := jSef.grow (hh_33.iv 0 rfl) hb_332 hN_33 (by decide)
      have hh_44 := hh_33.sub (L1 := [(bo, 2, 1, .int qc_33), (bo, 2, 0, .ref qa_33), (r0, 13, 6, .ref printer_32), (r1, 10, 3, .int isStatement_28), (kernel_7, 7, 2, .ref start_10), (r0, 13, 5, .ref kernel_7), (r1, 10, 1, .null), (r0, 13, 4, .ref bo), (r0, 13, 3, .ref ou)]) [0, 1, 2, 3, 4, 5, 6, 7, 8] rfl (M1 := []) [] rfl (I1 := []) [] rfl
      clear hh_33
      have hh_45 := hh_44.addI (jSef.ie hd_43)
      clear hh_44
      have hd_46 := jOl.trO (hh_31.iv 0 rfl) hh_31.2.2.2.2.1 hbO_33 (by simp)
      have hh_47 := hh_45.addI (jOl.ie (dC := dC) (dI := dI) (G0 := G0) (k := 2) (rs := [bo, ou]) (H0 := s.heap) (F := [(2, 0), (2, 1)]) (C := RX0) (T := TX0) (N := 2) rfl (by decide) hh_45.2.2.2.2.1 (hd_46))
      clear hh_45
      have hyp_33 : qc_33.toInt ≤ (m_qa_33 : Nat) ∧ m_qa_33 ≤ 1048576 := by (try simp only at hr_34); omega
      have hy_48 := jYb.own hy_35 hbO_33 hb_332 hN_33 (by decide) (fun _ => ⟨_, _, _, hh_47.at 0 rfl, hh_47.at 1 rfl, hgq_33_0, hyp_33⟩)
      have hh_49 := hh_47.addI (jYb.ie hy_48)
      clear hh_47
      try simp only at hr_34
      obtain ⟨hr_34_0, hr_34_1, hr_34_2, hr_34_3, hr_34_4⟩ := hr_34
      have hh_50 := hh_49.wk (zc1 := (m_qa_33 - n_pa) / 16) (zs1 := 2 * (m_qa_33 - n_pa)) (by omega) (by omega)
      clear hh_49
      try clear hsz_33 htt_33 hrc_33 hrs_33
      try clear hb_334 hb_335
      refine lv_aload_n hx hb dX11_reply_82 rfl (lv_at hl 1 rfl) ?_
      refine j7_read hx hb hown hK (C := RX11) (T := TX11) (N := 19) rfl hly_13_4 hlk_35 (hh_50.at 7 rfl) dX11_reply_83 ?_
      refine lv_bipush (v := 125) hx hb dX11_reply_86 (by decide) ?_
      have hsz_51 := hh_50.2.2.2.2.2.1
      have htt_51 := hh_50.2.2.2.2.2.2.1
      refine W.room (fun hrc_51 hrs_51 => ?_)
      refine va_callv (A0 := jA base) (H0 := s.heap) (va_runV (As := [.int 125]) (rest := []) ⟨hx, hb, hml, hown, hts⟩ (uX0_put l dC dI ca base B hB hAp hB2 hB196 G_33 H_33 bo 125 qc_33 qa_33 m_qa_33 LC LS) (cwV 1 hts (jgV (jWr_15 _ (List.mem_of_getElem? (i := 23) rfl)) (jWr_16 _ (List.mem_of_getElem? (i := 0) rfl)) (jWr_16 _ (List.mem_of_getElem? (i := 1) rfl)) (jWr_1 _ (List.mem_of_getElem? (i := 14) rfl)) (jWr_16 _ (List.mem_of_getElem? (i := 2) rfl))) rfl rfl rfl (by decide +kernel) ⟨by rw [← hR]; exact Nat.le_of_ble_eq_true rfl, by rw [← hR]; exact Nat.le_of_ble_eq_true rfl⟩) ⟨fun a U g mk q => by obtain ⟨q0, q1, q2, qK, q10, q11, q12, q13⟩ := q; exact ⟨q0, q1, q2, jG.calling g mk a qK, q10, q11, q12, q13⟩, hh_50.recv (C := RX0) (T := TX0) (N := 2) hB2 rfl (by decide) hg_41 hK, fun U hU hW => ⟨rfl, hU, hh_50.2.1, hG.step hW hU hh_50.1, hg_41, hgq_33_0, (hh_50.2.2.1.sub (L1 := [(bo, 2, 1, .int qc_33), (bo, 2, 0, .ref qa_33)]) [0, 1] rfl), (by omega), (by omega), ⟨(by first | omega | rfl | assumption | fail), (by first | omega | rfl | assumption | fail), (by first | omega | rfl | assumption | fail), (by first | omega | rfl | assumption | fail), (by first | assumption | fail | omega)⟩⟩⟩ rfl rfl hl.1 rfl (lv_room (Nat.le_of_ble_eq_true rfl)) dX11_reply_88 ⟨by rw [hRc]; omega, by rw [hRs]; omega⟩) hh_50.1 (fun q _ h => h) (fun q h => h) (fun u_51 t_51 H_51 locs_51 ht_51 hvm_51 hr_52 hb_51 hz_51 hk_51 hS_51 => ?_)
      obtain ⟨qc_51, qa_51, m_qa_51, G_51⟩ := u_51
      rw [ht_51] at hb_51
      simp only at hb_51
      obtain ⟨⟨hb_511, hb_512, hb_513, hb_514, hb_515, hb_516⟩, hgq_51_0, hN_51, hbO_51⟩ := hb_51
      have hy_53 := hh_50.iv 0 rfl
      have hh_51 : jSt (dC, dI) B base G0 G_51 EX11_reply s.heap (((m_qa_33 - n_pa) / 16) + ((m_qa_51 - m_qa_33) / 16)) ((2 * (m_qa_33 - n_pa)) + (2 * (m_qa_51 - m_qa_33))) [(bo, 2, 1, .int qc_51), (bo, 2, 0, .ref qa_51), (r0, 13, 6, .ref printer_32), (r1, 10, 3, .int isStatement_28), (kernel_7, 7, 2, .ref start_10), (r0, 13, 5, .ref kernel_7), (r1, 10, 1, .null), (r0, 13, 4, .ref bo), (r0, 13, 3, .ref ou)] [] [(jFs11, jSef dC dI G_33)] H_51 locs_51 := (hh_50.callG hb_511 hb_512 hb_513 hb_514 hb_515 hS_51 rfl (L1 := [(r0, 13, 6, .ref printer_32), (r1, 10, 3, .int isStatement_28), (kernel_7, 7, 2, .ref start_10), (r0, 13, 5, .ref kernel_7), (r1, 10, 1, .null), (r0, 13, 4, .ref bo), (r0, 13, 3, .ref ou)]) [2, 3, 4, 5, 6, 7, 8] rfl rfl (M1 := []) [] rfl rfl (I1 := [(jFs11, jSef dC dI G_33)]) [2] rfl rfl).more hb_516
      have hNn_51 : (jNk [0, 1, 2, 3, 4, 5, 6, 7, 8, 9, 10, 11, 12, 13, 14, 15, 16]) G0 G_51 := (hNn_33).tr hN_51
      have hg_54 := hb_512 _ _ hg_36
      have hg_55 := hb_512 _ _ hg_37
      have hg_56 := hb_512 _ _ hg_38
      have hg_57 := hb_512 _ _ hg_39
      have hg_58 := hb_512 _ _ hg_40
      have hg_59 := hb_512 _ _ hg_41
      have hg_60 := hb_512 _ _ hg_42
      have hd_61 := jSef.grow (hh_51.iv 0 rfl) hb_512 hN_51 (by decide)
      have hh_62 := hh_51.sub (L1 := [(bo, 2, 1, .int qc_51), (bo, 2, 0, .ref qa_51), (r0, 13, 6, .ref printer_32), (r1, 10, 3, .int isStatement_28), (kernel_7, 7, 2, .ref start_10), (r0, 13, 5, .ref kernel_7), (r1, 10, 1, .null), (r0, 13, 4, .ref bo), (r0, 13, 3, .ref ou)]) [0, 1, 2, 3, 4, 5, 6, 7, 8] rfl (M1 := []) [] rfl (I1 := []) [] rfl
      clear hh_51
      have hh_63 := hh_62.addI (jSef.ie hd_61)
      clear hh_62
      have hd_64 := jOl.trO (hh_50.iv 1 rfl) hh_50.2.2.2.2.1 hbO_51 (by simp)
      have hh_65 := hh_63.addI (jOl.ie (dC := dC) (dI := dI) (G0 := G0) (k := 2) (rs := [bo, ou]) (H0 := s.heap) (F := [(2, 0), (2, 1)]) (C := RX0) (T := TX0) (N := 2) rfl (by decide) hh_63.2.2.2.2.1 (hd_64))
      clear hh_63
      have hyp_51 : qc_51.toInt ≤ (m_qa_51 : Nat) ∧ m_qa_51 ≤ 1048576 := by (try simp only at hr_52); omega
      have hy_66 := jYb.own hy_53 hbO_51 hb_512 hN_51 (by decide) (fun _ => ⟨_, _, _, hh_65.at 0 rfl, hh_65.at 1 rfl, hgq_51_0, hyp_51⟩)
      have hh_67 := hh_65.addI (jYb.ie hy_66)
      clear hh_65
      try simp only at hr_52
      obtain ⟨hr_52_0, hr_52_1, hr_52_2, hr_52_3, hr_52_4⟩ := hr_52
      have hh_68 := hh_67.wk (zc1 := (m_qa_51 - n_pa) / 16) (zs1 := 2 * (m_qa_51 - n_pa)) (by omega) (by omega)
      clear hh_67
      try clear hsz_51 htt_51 hrc_51 hrs_51
      try clear hb_514 hb_515
      refine lv_aload_n hx hb dX11_reply_91 rfl (lv_at hl 1 rfl) ?_
      obtain ⟨v_71, hv_71, hh_72⟩ := hh_68.pin (C := RX0) (T := TX0) (N := 2) hB2 rfl (by decide) hg_60 (i := 1) (by decide) rfl
      obtain ⟨count_73, rfl, hlocount_73, hhicount_73, hfxcount_73⟩ := hv_71
      obtain ⟨v_74, hv_74, hh_75⟩ := hh_72.pin (C := RX0) (T := TX0) (N := 2) hB2 rfl (by decide) hg_60 (i := 0) (by decide) rfl
      obtain ⟨row_76, nrow_76, rfl, hg_row_76, hlorow_76, hhirow_76, hpwrow_76, hfxrow_76⟩ := hv_74
      have hsz_69 := hh_75.2.2.2.2.2.1
      have htt_69 := hh_75.2.2.2.2.2.2.1
      refine W.room (fun hrc_69 hrs_69 => ?_)
      refine va_callv (A0 := jA base) (H0 := s.heap) (va_runV (As := []) (rest := []) ⟨hx, hb, hml, hown, hts⟩ (uX11_send l dC dI ca base B hB hAp hB2 hB4 hB13 hB196 G_51 H_51 r0 bo qc_51 qa_51 m_qa_51 ou count_73 row_76 nrow_76) (cwV 0 hts (jgV (jWr_26 _ (List.mem_of_getElem? (i := 20) rfl)) (jWr_26 _ (List.mem_of_getElem? (i := 21) rfl)) (jWr_26 _ (List.mem_of_getElem? (i := 22) rfl)) (jWr_1 _ (List.mem_of_getElem? (i := 2) rfl)) (jWr_26 _ (List.mem_of_getElem? (i := 23) rfl))) rfl rfl rfl (by decide +kernel) ⟨by rw [← hR]; exact Nat.le_of_ble_eq_true rfl, by rw [← hR]; exact Nat.le_of_ble_eq_true rfl⟩) ⟨fun a U g mk q => by obtain ⟨q0, q1, q2, qK, q10, q11, q12, q13, q14, q15, q16, q17⟩ := q; exact ⟨q0, q1, q2, jG.calling g mk a qK, q10, q11, q12, q13, q14, q15, q16, q17⟩, hh_75.recv (C := RX11) (T := TX11) (N := 19) hB13 rfl (by decide) hg_55 hK, fun U hU hW => ⟨rfl, hU, hh_75.2.1, hG.step hW hU hh_75.1, hg_55, hg_59, hgq_51_0, hg_60, hg_row_76, (hh_75.2.2.1.sub (L1 := [(r0, 13, 4, .ref bo), (bo, 2, 1, .int qc_51), (bo, 2, 0, .ref qa_51), (r0, 13, 3, .ref ou), (ou, 2, 1, .int count_73), (ou, 2, 0, .ref row_76)]) [9, 2, 3, 10, 1, 0] rfl), (hh_75.2.2.2.2.2.2.2.2.sub (L1 := [(jFy, jYb dC dI G_51)]) [0] rfl), ⟨(by first | omega | rfl | assumption | fail), (by first | omega | rfl | assumption | fail), (by first | omega | rfl | assumption | fail), (by first | omega | rfl | assumption | fail), (by first | omega | rfl | assumption | fail), (by first | omega | rfl | assumption | fail)⟩⟩⟩ rfl rfl hl.1 rfl (lv_room (Nat.le_of_ble_eq_true rfl)) dX11_reply_92 ⟨by rw [hRc]; show _ + 0 ≤ _; omega, by rw [hRs]; show _ + 0 ≤ _; omega⟩) hh_75.1 (fun q _ h => h) (fun q h => h) (fun u_69 t_69 H_69 locs_69 ht_69 hvm_69 hr_70 hb_69 hz_69 hk_69 hS_69 => ?_)
      rw [ht_69] at hb_69
      obtain ⟨hb_69, hbE_69⟩ := hb_69
      obtain ⟨hb_69, hbO_69⟩ := hb_69
      obtain ⟨hb_691, hb_692, hb_693, hb_694, hb_695⟩ := hb_69
      have hh_69 : jSt (dC, dI) B base G0 G_51 EX11_reply s.heap ((m_qa_51 - n_pa) / 16) (2 * (m_qa_51 - n_pa)) [(r0, 13, 6, .ref printer_32), (r1, 10, 3, .int isStatement_28), (kernel_7, 7, 2, .ref start_10), (r0, 13, 5, .ref kernel_7), (r1, 10, 1, .null), (r0, 13, 4, .ref bo), (r0, 13, 3, .ref ou)] [] [(jFy, jYb dC dI G_51), (jFs11, jSef dC dI G_51)] H_69 locs_69 := (((hh_75.call hb_691 hb_692 hb_693 hb_694 hS_69 rfl (L1 := [(r0, 13, 6, .ref printer_32), (r1, 10, 3, .int isStatement_28), (kernel_7, 7, 2, .ref start_10), (r0, 13, 5, .ref kernel_7), (r1, 10, 1, .null), (r0, 13, 4, .ref bo), (r0, 13, 3, .ref ou)]) [4, 5, 6, 7, 8, 9, 10] rfl rfl (M1 := []) [] rfl rfl (I1 := [(jFs11, jSef dC dI G_51)]) [2] rfl rfl).more hb_695)).addIs hbE_69
      have hh_77 := hh_69.more (P1 := [(bo, 2, 1, .int qc_51), (bo, 2, 0, .ref qa_51)]) (jP.cons hg_59 (hbO_69 _ _ _ _ (jn1 (by first | assumption | exact Ne.symm (by assumption) | exact jnek hg_59 hg_60 (by decide))) hg_59 (hh_75.at 2 rfl)) (jP.cons hg_59 (hbO_69 _ _ _ _ (jn1 (by first | assumption | exact Ne.symm (by assumption) | exact jnek hg_59 hg_60 (by decide))) hg_59 (hh_75.at 3 rfl)) jP.nil))
      have hd_78 := jOl.trL (hh_75.iv 1 rfl) hh_75.2.2.2.2.1 hbO_69 (by simp)
      have hh_79 := hh_77.addI (jOl.ie (dC := dC) (dI := dI) (G0 := G0) (k := 2) (rs := [bo, ou]) (H0 := s.heap) (F := [(2, 0), (2, 1)]) (C := RX0) (T := TX0) (N := 2) rfl (by decide) hh_77.2.2.2.2.1 (hd_78))
      clear hh_77
      clear hh_75 ht_69 hvm_69 hz_69 hk_69 hS_69 hb_691 hb_692 hb_693 hb_694 hb_695
      clear  hbE_69
      have hsz_80 := hh_79.2.2.2.2.2.1
      have htt_80 := hh_79.2.2.2.2.2.2.1
      refine W.room (fun hrc_80 hrs_80 => ?_)
      refine W.widen (k := LC - s.heap.size) (n := LS - jTot s.heap) (by omega) (by omega) ?_
      rw [hQ]
      exact W.vret hx hb hr (fun t ht hW => ⟨⟨(qc_51, qa_51, m_qa_51, G_51), rfl, by (try dsimp only); exact ⟨(by first | omega | rfl | assumption | fail), (by first | omega | rfl | assumption | fail), (by first | omega | rfl | assumption | fail), (by first | omega | rfl | assumption | fail), (by first | assumption | fail | omega)⟩, ⟨hh_79.ra (by first | omega | (simp only; omega)) (by first | omega | (simp only; omega)) (M1 := [(bo, 2, 1, .int qc_51), (bo, 2, 0, .ref qa_51)]) [0, 1] rfl ht, hgq_51_0, hNn_51, by rw [ht]; exact hh_79.iv 0 rfl, by rw [ht]; exact hh_79.2.2.2.2.2.2.2.2.sub (L1 := [(jFy, jYb dC dI G_51), (jFs11, jSef dC dI G_51)]) [1, 2] rfl⟩⟩, by rw [ht]; try exact hh_79.1.1, fun q h9 hq => by rw [ht]; try exact hh_79.1.2.1 q h9 hq⟩) hh_79.1.2.2 dX11_reply_95
    · skip
      have c_29' : isStatement_28.toInt ≠ 0 := jb_eq_n (rfl) ((by decide)) c_29
      refine lv_aload_n hx hb dX11_reply_51 rfl (lv_at hl 1 rfl) ?_
      obtain ⟨v_81, hv_81, hh_82⟩ := hh_27.pin (C := RX11) (T := TX11) (N := 19) hB13 rfl (by decide) hg_14 (i := 6) (by decide) rfl
      clear hh_27
      obtain ⟨printer_83, rfl, hg_printer_83⟩ := hv_81
      refine j7_read hx hb hown hK (C := RX11) (T := TX11) (N := 19) rfl hly_13_6 hlk_54 (hh_82.at 0 rfl) dX11_reply_52 ?_
      refine lv_aload_n hx hb dX11_reply_55 rfl (lv_at hl 0 rfl) ?_
      refine lv_aload_n hx hb dX11_reply_56 rfl (lv_at hl 2 rfl) ?_
      obtain ⟨v_84, hv_84, hh_85⟩ := hh_82.pin (C := RX8) (T := TX8) (N := 5) hB10 rfl (by decide) hg_15 (i := 4) (by decide) rfl
      clear hh_82
      obtain ⟨name_86, rfl⟩ := hv_84
      refine j7_read hx hb hown hK (C := RX8) (T := TX8) (N := 5) rfl hly_10_4 hlk_451 (hh_85.at 0 rfl) dX11_reply_57 ?_
      refine lv_aload_n hx hb dX11_reply_60 rfl (lv_at hl 1 rfl) ?_
      refine j7_read hx hb hown hK (C := RX11) (T := TX11) (N := 19) rfl hly_13_4 hlk_35 (hh_85.at 8 rfl) dX11_reply_61 ?_
      have hsz_87 := hh_85.2.2.2.2.2.1
      have htt_87 := hh_85.2.2.2.2.2.2.1
      refine W.room (fun hrc_87 hrs_87 => ?_)
      refine va_callv (A0 := jA base) (H0 := s.heap) (va_runV (As := [.ref start_10, .int name_86, .ref bo]) (rest := []) ⟨hx, hb, hml, hown, hts⟩ (uX7_statement l dC dI ca base B hB hAp hB2 hB8 hB9 hB11 hB101 hB102 hB132 hB196 hB280 hB286 hB287 hB288 hB313 G_11 H_11 printer_83 start_10 name_86 bo qc_11 qa_11 m_qa_11 LC LS) (cwV 3 hts (jgV (jWr_30 _ (List.mem_of_getElem? (i := 13) rfl)) (jWr_30 _ (List.mem_of_getElem? (i := 14) rfl)) (jWr_30 _ (List.mem_of_getElem? (i := 15) rfl)) (jWr_2 _ (List.mem_of_getElem? (i := 8) rfl)) (jWr_30 _ (List.mem_of_getElem? (i := 16) rfl))) rfl rfl rfl (by decide +kernel) ⟨by rw [← hR]; exact Nat.le_of_ble_eq_true rfl, by rw [← hR]; exact Nat.le_of_ble_eq_true rfl⟩) ⟨fun a U g mk q => by obtain ⟨q0, q1, q2, qK, q10, q11, q12, q13, q14, q15, q16, q17⟩ := q; exact ⟨q0, q1, q2, jG.calling g mk a qK, (jK5.moved (Vm.Alike.refl U.vm) q10), q11, q12, q13, q14, q15, q16, q17⟩, hh_85.recv (C := RX7) (T := TX7) (N := 5) hB9 rfl (by decide) hg_printer_83 hK, fun U hU hW => ⟨rfl, hU, hh_85.2.1, hG.step hW hU hh_85.1, jK5.moved hW.alike hK5, hg_17, hg_13, hg_printer_83, hgq_11_0, (hh_85.2.2.1.sub (L1 := [(bo, 2, 1, .int qc_11), (bo, 2, 0, .ref qa_11)]) [3, 4] rfl), (hh_85.2.2.2.2.2.2.2.2.sub (L1 := [(jFs11, jSef dC dI G_11)]) [2] rfl), (by omega), (by omega), ⟨(by first | omega | rfl | assumption | fail), (by first | omega | rfl | assumption | fail), (by first | omega | rfl | assumption | fail), (by first | omega | rfl | assumption | fail), (by first | assumption | fail | omega)⟩⟩⟩ rfl rfl hl.1 rfl (lv_room (Nat.le_of_ble_eq_true rfl)) dX11_reply_64 ⟨by rw [hRc]; omega, by rw [hRs]; omega⟩) hh_85.1 (fun q _ h => h) (fun q h => h) (fun u_87 t_87 H_87 locs_87 ht_87 hvm_87 hr_88 hb_87 hz_87 hk_87 hS_87 => ?_)
      obtain ⟨qc_87, qa_87, m_qa_87, G_87⟩ := u_87
      rw [ht_87] at hb_87
      simp only at hb_87
      obtain ⟨⟨hb_871, hb_872, hb_873, hb_874, hb_875, hb_876⟩, hgq_87_0, hN_87, hbO_87, hbE_87⟩ := hb_87
      have hy_89 := hh_85.iv 1 rfl
      have hh_87 : jSt (dC, dI) B base G0 G_87 EX11_reply s.heap (((m_qa_11 - n_pa) / 16) + ((m_qa_87 - m_qa_11) / 16)) ((2 * (m_qa_11 - n_pa)) + (2 * (m_qa_87 - m_qa_11))) [(bo, 2, 1, .int qc_87), (bo, 2, 0, .ref qa_87), (r1, 10, 4, .int name_86), (r0, 13, 6, .ref printer_83), (r1, 10, 3, .int isStatement_28), (kernel_7, 7, 2, .ref start_10), (r0, 13, 5, .ref kernel_7), (r1, 10, 1, .null), (r0, 13, 4, .ref bo), (r0, 13, 3, .ref ou)] [] [] H_87 locs_87 := (hh_85.callG hb_871 hb_872 hb_873 hb_874 hb_875 hS_87 rfl (L1 := [(r1, 10, 4, .int name_86), (r0, 13, 6, .ref printer_83), (r1, 10, 3, .int isStatement_28), (kernel_7, 7, 2, .ref start_10), (r0, 13, 5, .ref kernel_7), (r1, 10, 1, .null), (r0, 13, 4, .ref bo), (r0, 13, 3, .ref ou)]) [0, 1, 2, 5, 6, 7, 8, 9] rfl rfl (M1 := []) [] rfl rfl (I1 := []) [] rfl rfl).more hb_876
      have hNn_87 : (jNk [0, 1, 2, 3, 4, 5, 6, 7, 8, 9, 10, 11, 12, 13, 14, 15, 16]) G0 G_87 := (hNn_11).tr hN_87
      have hg_90 := hb_872 _ _ hg_13
      have hg_91 := hb_872 _ _ hg_14
      have hg_92 := hb_872 _ _ hg_15
      have hg_93 := hb_872 _ _ hg_printer_83
      have hg_94 := hb_872 _ _ hg_16
      have hg_95 := hb_872 _ _ hg_17
      have hg_96 := hb_872 _ _ hg_18
      have hh_97 := hh_87.addIs hbE_87
      have hd_98 := jOl.trO (hh_85.iv 0 rfl) hh_85.2.2.2.2.1 hbO_87 (by simp)
      have hh_99 := hh_97.addI (jOl.ie (dC := dC) (dI := dI) (G0 := G0) (k := 2) (rs := [bo, ou]) (H0 := s.heap) (F := [(2, 0), (2, 1)]) (C := RX0) (T := TX0) (N := 2) rfl (by decide) hh_97.2.2.2.2.1 (hd_98))
      clear hh_97
      have hyp_87 : qc_87.toInt ≤ (m_qa_87 : Nat) ∧ m_qa_87 ≤ 1048576 := by (try simp only at hr_88); omega
      have hy_100 := jYb.own hy_89 hbO_87 hb_872 hN_87 (by decide) (fun _ => ⟨_, _, _, hh_99.at 0 rfl, hh_99.at 1 rfl, hgq_87_0, hyp_87⟩)
      have hh_101 := hh_99.addI (jYb.ie hy_100)
      clear hh_99
      try simp only at hr_88
      obtain ⟨hr_88_0, hr_88_1, hr_88_2, hr_88_3, hr_88_4⟩ := hr_88
      have hh_102 := hh_101.wk (zc1 := (m_qa_87 - n_pa) / 16) (zs1 := 2 * (m_qa_87 - n_pa)) (by omega) (by omega)
      clear hh_101
      try clear hsz_87 htt_87 hrc_87 hrs_87
      try clear hb_874 hb_875
      refine lv_goto (tgt := 82) hx hb dX11_reply_67 (by decide) ?_
      refine lv_aload_n hx hb dX11_reply_82 rfl (lv_at hl 1 rfl) ?_
      refine j7_read hx hb hown hK (C := RX11) (T := TX11) (N := 19) rfl hly_13_4 hlk_35 (hh_102.at 8 rfl) dX11_reply_83 ?_
      refine lv_bipush (v := 125) hx hb dX11_reply_86 (by decide) ?_
      have hsz_103 := hh_102.2.2.2.2.2.1
      have htt_103 := hh_102.2.2.2.2.2.2.1
      refine W.room (fun hrc_103 hrs_103 => ?_)
      refine va_callv (A0 := jA base) (H0 := s.heap) (va_runV (As := [.int 125]) (rest := []) ⟨hx, hb, hml, hown, hts⟩ (uX0_put l dC dI ca base B hB hAp hB2 hB196 G_87 H_87 bo 125 qc_87 qa_87 m_qa_87 LC LS) (cwV 1 hts (jgV (jWr_15 _ (List.mem_of_getElem? (i := 23) rfl)) (jWr_16 _ (List.mem_of_getElem? (i := 0) rfl)) (jWr_16 _ (List.mem_of_getElem? (i := 1) rfl)) (jWr_1 _ (List.mem_of_getElem? (i := 14) rfl)) (jWr_16 _ (List.mem_of_getElem? (i := 2) rfl))) rfl rfl rfl (by decide +kernel) ⟨by rw [← hR]; exact Nat.le_of_ble_eq_true rfl, by rw [← hR]; exact Nat.le_of_ble_eq_true rfl⟩) ⟨fun a U g mk q => by obtain ⟨q0, q1, q2, qK, q10, q11, q12, q13⟩ := q; exact ⟨q0, q1, q2, jG.calling g mk a qK, q10, q11, q12, q13⟩, hh_102.recv (C := RX0) (T := TX0) (N := 2) hB2 rfl (by decide) hg_95 hK, fun U hU hW => ⟨rfl, hU, hh_102.2.1, hG.step hW hU hh_102.1, hg_95, hgq_87_0, (hh_102.2.2.1.sub (L1 := [(bo, 2, 1, .int qc_87), (bo, 2, 0, .ref qa_87)]) [0, 1] rfl), (by omega), (by omega), ⟨(by first | omega | rfl | assumption | fail), (by first | omega | rfl | assumption | fail), (by first | omega | rfl | assumption | fail), (by first | omega | rfl | assumption | fail), (by first | assumption | fail | omega)⟩⟩⟩ rfl rfl hl.1 rfl (lv_room (Nat.le_of_ble_eq_true rfl)) dX11_reply_88 ⟨by rw [hRc]; omega, by rw [hRs]; omega⟩) hh_102.1 (fun q _ h => h) (fun q h => h) (fun u_103 t_103 H_103 locs_103 ht_103 hvm_103 hr_104 hb_103 hz_103 hk_103 hS_103 => ?_)
      obtain ⟨qc_103, qa_103, m_qa_103, G_103⟩ := u_103
      rw [ht_103] at hb_103
      simp only at hb_103
      obtain ⟨⟨hb_1031, hb_1032, hb_1033, hb_1034, hb_1035, hb_1036⟩, hgq_103_0, hN_103, hbO_103⟩ := hb_103
      have hy_105 := hh_102.iv 0 rfl
      have hh_103 : jSt (dC, dI) B base G0 G_103 EX11_reply s.heap (((m_qa_87 - n_pa) / 16) + ((m_qa_103 - m_qa_87) / 16)) ((2 * (m_qa_87 - n_pa)) + (2 * (m_qa_103 - m_qa_87))) [(bo, 2, 1, .int qc_103), (bo, 2, 0, .ref qa_103), (r1, 10, 4, .int name_86), (r0, 13, 6, .ref printer_83), (r1, 10, 3, .int isStatement_28), (kernel_7, 7, 2, .ref start_10), (r0, 13, 5, .ref kernel_7), (r1, 10, 1, .null), (r0, 13, 4, .ref bo), (r0, 13, 3, .ref ou)] [] [(jFs11, jSef dC dI G_87)] H_103 locs_103 := (hh_102.callG hb_1031 hb_1032 hb_1033 hb_1034 hb_1035 hS_103 rfl (L1 := [(r1, 10, 4, .int name_86), (r0, 13, 6, .ref printer_83), (r1, 10, 3, .int isStatement_28), (kernel_7, 7, 2, .ref start_10), (r0, 13, 5, .ref kernel_7), (r1, 10, 1, .null), (r0, 13, 4, .ref bo), (r0, 13, 3, .ref ou)]) [2, 3, 4, 5, 6, 7, 8, 9] rfl rfl (M1 := []) [] rfl rfl (I1 := [(jFs11, jSef dC dI G_87)]) [2] rfl rfl).more hb_1036
      have hNn_103 : (jNk [0, 1, 2, 3, 4, 5, 6, 7, 8, 9, 10, 11, 12, 13, 14, 15, 16]) G0 G_103 := (hNn_87).tr hN_103
      have hg_106 := hb_1032 _ _ hg_90
      have hg_107 := hb_1032 _ _ hg_91
      have hg_108 := hb_1032 _ _ hg_92
      have hg_109 := hb_1032 _ _ hg_93
      have hg_110 := hb_1032 _ _ hg_94
      have hg_111 := hb_1032 _ _ hg_95
      have hg_112 := hb_1032 _ _ hg_96
      have hd_113 := jSef.grow (hh_103.iv 0 rfl) hb_1032 hN_103 (by decide)
      have hh_114 := hh_103.sub (L1 := [(bo, 2, 1, .int qc_103), (bo, 2, 0, .ref qa_103), (r1, 10, 4, .int name_86), (r0, 13, 6, .ref printer_83), (r1, 10, 3, .int isStatement_28), (kernel_7, 7, 2, .ref start_10), (r0, 13, 5, .ref kernel_7), (r1, 10, 1, .null), (r0, 13, 4, .ref bo), (r0, 13, 3, .ref ou)]) [0, 1, 2, 3, 4, 5, 6, 7, 8, 9] rfl (M1 := []) [] rfl (I1 := []) [] rfl
      clear hh_103
      have hh_115 := hh_114.addI (jSef.ie hd_113)
      clear hh_114
      have hd_116 := jOl.trO (hh_102.iv 1 rfl) hh_102.2.2.2.2.1 hbO_103 (by simp)
      have hh_117 := hh_115.addI (jOl.ie (dC := dC) (dI := dI) (G0 := G0) (k := 2) (rs := [bo, ou]) (H0 := s.heap) (F := [(2, 0), (2, 1)]) (C := RX0) (T := TX0) (N := 2) rfl (by decide) hh_115.2.2.2.2.1 (hd_116))
      clear hh_115
      have hyp_103 : qc_103.toInt ≤ (m_qa_103 : Nat) ∧ m_qa_103 ≤ 1048576 := by (try simp only at hr_104); omega
      have hy_118 := jYb.own hy_105 hbO_103 hb_1032 hN_103 (by decide) (fun _ => ⟨_, _, _, hh_117.at 0 rfl, hh_117.at 1 rfl, hgq_103_0, hyp_103⟩)
      have hh_119 := hh_117.addI (jYb.ie hy_118)
      clear hh_117
      try simp only at hr_104
      obtain ⟨hr_104_0, hr_104_1, hr_104_2, hr_104_3, hr_104_4⟩ := hr_104
      have hh_120 := hh_119.wk (zc1 := (m_qa_103 - n_pa) / 16) (zs1 := 2 * (m_qa_103 - n_pa)) (by omega) (by omega)
      clear hh_119
      try clear hsz_103 htt_103 hrc_103 hrs_103
      try clear hb_1034 hb_1035
      refine lv_aload_n hx hb dX11_reply_91 rfl (lv_at hl 1 rfl) ?_
      obtain ⟨v_123, hv_123, hh_124⟩ := hh_120.pin (C := RX0) (T := TX0) (N := 2) hB2 rfl (by decide) hg_112 (i := 1) (by decide) rfl
      obtain ⟨count_125, rfl, hlocount_125, hhicount_125, hfxcount_125⟩ := hv_123
      obtain ⟨v_126, hv_126, hh_127⟩ := hh_124.pin (C := RX0) (T := TX0) (N := 2) hB2 rfl (by decide) hg_112 (i := 0) (by decide) rfl
      obtain ⟨row_128, nrow_128, rfl, hg_row_128, hlorow_128, hhirow_128, hpwrow_128, hfxrow_128⟩ := hv_126
      have hsz_121 := hh_127.2.2.2.2.2.1
      have htt_121 := hh_127.2.2.2.2.2.2.1
      refine W.room (fun hrc_121 hrs_121 => ?_)
      refine va_callv (A0 := jA base) (H0 := s.heap) (va_runV (As := []) (rest := []) ⟨hx, hb, hml, hown, hts⟩ (uX11_send l dC dI ca base B hB hAp hB2 hB4 hB13 hB196 G_103 H_103 r0 bo qc_103 qa_103 m_qa_103 ou count_125 row_128 nrow_128) (cwV 0 hts (jgV (jWr_26 _ (List.mem_of_getElem? (i := 20) rfl)) (jWr_26 _ (List.mem_of_getElem? (i := 21) rfl)) (jWr_26 _ (List.mem_of_getElem? (i := 22) rfl)) (jWr_1 _ (List.mem_of_getElem? (i := 2) rfl)) (jWr_26 _ (List.mem_of_getElem? (i := 23) rfl))) rfl rfl rfl (by decide +kernel) ⟨by rw [← hR]; exact Nat.le_of_ble_eq_true rfl, by rw [← hR]; exact Nat.le_of_ble_eq_true rfl⟩) ⟨fun a U g mk q => by obtain ⟨q0, q1, q2, qK, q10, q11, q12, q13, q14, q15, q16, q17⟩ := q; exact ⟨q0, q1, q2, jG.calling g mk a qK, q10, q11, q12, q13, q14, q15, q16, q17⟩, hh_127.recv (C := RX11) (T := TX11) (N := 19) hB13 rfl (by decide) hg_107 hK, fun U hU hW => ⟨rfl, hU, hh_127.2.1, hG.step hW hU hh_127.1, hg_107, hg_111, hgq_103_0, hg_112, hg_row_128, (hh_127.2.2.1.sub (L1 := [(r0, 13, 4, .ref bo), (bo, 2, 1, .int qc_103), (bo, 2, 0, .ref qa_103), (r0, 13, 3, .ref ou), (ou, 2, 1, .int count_125), (ou, 2, 0, .ref row_128)]) [10, 2, 3, 11, 1, 0] rfl), (hh_127.2.2.2.2.2.2.2.2.sub (L1 := [(jFy, jYb dC dI G_103)]) [0] rfl), ⟨(by first | omega | rfl | assumption | fail), (by first | omega | rfl | assumption | fail), (by first | omega | rfl | assumption | fail), (by first | omega | rfl | assumption | fail), (by first | omega | rfl | assumption | fail), (by first | omega | rfl | assumption | fail)⟩⟩⟩ rfl rfl hl.1 rfl (lv_room (Nat.le_of_ble_eq_true rfl)) dX11_reply_92 ⟨by rw [hRc]; show _ + 0 ≤ _; omega, by rw [hRs]; show _ + 0 ≤ _; omega⟩) hh_127.1 (fun q _ h => h) (fun q h => h) (fun u_121 t_121 H_121 locs_121 ht_121 hvm_121 hr_122 hb_121 hz_121 hk_121 hS_121 => ?_)
      rw [ht_121] at hb_121
      obtain ⟨hb_121, hbE_121⟩ := hb_121
      obtain ⟨hb_121, hbO_121⟩ := hb_121
      obtain ⟨hb_1211, hb_1212, hb_1213, hb_1214, hb_1215⟩ := hb_121
      have hh_121 : jSt (dC, dI) B base G0 G_103 EX11_reply s.heap ((m_qa_103 - n_pa) / 16) (2 * (m_qa_103 - n_pa)) [(r1, 10, 4, .int name_86), (r0, 13, 6, .ref printer_83), (r1, 10, 3, .int isStatement_28), (kernel_7, 7, 2, .ref start_10), (r0, 13, 5, .ref kernel_7), (r1, 10, 1, .null), (r0, 13, 4, .ref bo), (r0, 13, 3, .ref ou)] [] [(jFy, jYb dC dI G_103), (jFs11, jSef dC dI G_103)] H_121 locs_121 := (((hh_127.call hb_1211 hb_1212 hb_1213 hb_1214 hS_121 rfl (L1 := [(r1, 10, 4, .int name_86), (r0, 13, 6, .ref printer_83), (r1, 10, 3, .int isStatement_28), (kernel_7, 7, 2, .ref start_10), (r0, 13, 5, .ref kernel_7), (r1, 10, 1, .null), (r0, 13, 4, .ref bo), (r0, 13, 3, .ref ou)]) [4, 5, 6, 7, 8, 9, 10, 11] rfl rfl (M1 := []) [] rfl rfl (I1 := [(jFs11, jSef dC dI G_103)]) [2] rfl rfl).more hb_1215)).addIs hbE_121
      have hh_129 := hh_121.more (P1 := [(bo, 2, 1, .int qc_103), (bo, 2, 0, .ref qa_103)]) (jP.cons hg_111 (hbO_121 _ _ _ _ (jn1 (by first | assumption | exact Ne.symm (by assumption) | exact jnek hg_111 hg_112 (by decide))) hg_111 (hh_127.at 2 rfl)) (jP.cons hg_111 (hbO_121 _ _ _ _ (jn1 (by first | assumption | exact Ne.symm (by assumption) | exact jnek hg_111 hg_112 (by decide))) hg_111 (hh_127.at 3 rfl)) jP.nil))
      have hd_130 := jOl.trL (hh_127.iv 1 rfl) hh_127.2.2.2.2.1 hbO_121 (by simp)
      have hh_131 := hh_129.addI (jOl.ie (dC := dC) (dI := dI) (G0 := G0) (k := 2) (rs := [bo, ou]) (H0 := s.heap) (F := [(2, 0), (2, 1)]) (C := RX0) (T := TX0) (N := 2) rfl (by decide) hh_129.2.2.2.2.1 (hd_130))
      clear hh_129
      clear hh_127 ht_121 hvm_121 hz_121 hk_121 hS_121 hb_1211 hb_1212 hb_1213 hb_1214 hb_1215
      clear  hbE_121
      have hsz_132 := hh_131.2.2.2.2.2.1
      have htt_132 := hh_131.2.2.2.2.2.2.1
      refine W.room (fun hrc_132 hrs_132 => ?_)
      refine W.widen (k := LC - s.heap.size) (n := LS - jTot s.heap) (by omega) (by omega) ?_
      rw [hQ]
      exact W.vret hx hb hr (fun t ht hW => ⟨⟨(qc_103, qa_103, m_qa_103, G_103), rfl, by (try dsimp only); exact ⟨(by first | omega | rfl | assumption | fail), (by first | omega | rfl | assumption | fail), (by first | omega | rfl | assumption | fail), (by first | omega | rfl | assumption | fail), (by first | assumption | fail | omega)⟩, ⟨hh_131.ra (by first | omega | (simp only; omega)) (by first | omega | (simp only; omega)) (M1 := [(bo, 2, 1, .int qc_103), (bo, 2, 0, .ref qa_103)]) [0, 1] rfl ht, hgq_103_0, hNn_103, by rw [ht]; exact hh_131.iv 0 rfl, by rw [ht]; exact hh_131.2.2.2.2.2.2.2.2.sub (L1 := [(jFy, jYb dC dI G_103), (jFs11, jSef dC dI G_103)]) [1, 2] rfl⟩⟩, by rw [ht]; try exact hh_131.1.1, fun q h9 hq => by rw [ht]; try exact hh_131.1.2.1 q h9 hq⟩) hh_131.1.2.2 dX11_reply_95
  · refine j7_read hx hb hown hK (C := RX8) (T := TX8) (N := 5) rfl hly_10_1 hlk_432 (hh_3.at 0 rfl) dX11_reply_1 ?_
    refine lv_ifnonnull (tgt := 17) hx hb dX11_reply_4 (by decide) ?_
    refine lv_aload_n hx hb dX11_reply_17 rfl (lv_at hl 1 rfl) ?_
    refine j7_read hx hb hown hK (C := RX8) (T := TX8) (N := 5) rfl hly_10_1 hlk_432 (hh_3.at 0 rfl) dX11_reply_18 ?_
    refine lv_aload_n hx hb dX11_reply_21 rfl (lv_at hl 1 rfl) ?_
    obtain ⟨v_133, hv_133, hh_134⟩ := hh_3.pin (C := RX8) (T := TX8) (N := 5) hB10 rfl (by decide) hg_r1 (i := 2) (by decide) rfl
    clear hh_3
    obtain ⟨needed_135, rfl⟩ := hv_133
    refine j7_read hx hb hown hK (C := RX8) (T := TX8) (N := 5) rfl hly_10_2 hlk_438 (hh_134.at 0 rfl) dX11_reply_22 ?_
    refine lv_aload_n hx hb dX11_reply_25 rfl (lv_at hl 0 rfl) ?_
    obtain ⟨v_136, hv_136, hh_137⟩ := hh_134.pin (C := RX11) (T := TX11) (N := 19) hB13 rfl (by decide) hg_r0 (i := 5) (by decide) rfl
    clear hh_134
    obtain ⟨kernel_138, rfl, hg_kernel_138⟩ := hv_136
    refine j7_read hx hb hown hK (C := RX11) (T := TX11) (N := 19) rfl hly_13_5 hlk_41 (hh_137.at 0 rfl) dX11_reply_26 ?_
    obtain ⟨v_139, hv_139, hh_140⟩ := hh_137.pin (C := RX5) (T := TX5) (N := 11) hB7 rfl (by decide) hg_kernel_138 (i := 2) (by decide) rfl
    clear hh_137
    obtain ⟨start_141, rfl, hg_start_141⟩ := hv_139
    refine j7_read hx hb hown hK (C := RX5) (T := TX5) (N := 11) rfl hly_7_2 hlk_217 (hh_140.at 0 rfl) dX11_reply_29 ?_
    have hsz_142 := hh_140.2.2.2.2.2.1
    have htt_142 := hh_140.2.2.2.2.2.2.1
    refine W.room (fun hrc_142 hrs_142 => ?_)
    refine j_callx (A0 := jA base) (H0 := s.heap) (va_runV (As := [.int needed_135, .ref start_141]) (rest := []) ⟨hx, hb, hml, hown, hts⟩ (uX1_stateBehind l dC dI ca base B hB hAp hB3 hB11 hB210 G0 s.heap about_4 needed_135 start_141 0) (cwV 2 hts (jgV (jWr_30 _ (List.mem_of_getElem? (i := 9) rfl)) (jWr_30 _ (List.mem_of_getElem? (i := 10) rfl)) (jWr_30 _ (List.mem_of_getElem? (i := 11) rfl)) (jWr_2 _ (List.mem_of_getElem? (i := 21) rfl)) (jWr_30 _ (List.mem_of_getElem? (i := 12) rfl))) rfl rfl rfl (by decide +kernel) ⟨by rw [← hR]; exact Nat.le_of_ble_eq_true rfl, by rw [← hR]; exact Nat.le_of_ble_eq_true rfl⟩) ⟨fun a U g mk q => by obtain ⟨q0, q1, q2, qK, q10, q11, q12, q13, q14⟩ := q; exact ⟨q0, q1, q2, jG.calling g mk a qK, (va_K.moved (Vm.Alike.refl U.vm) q10), q11, q12, q13, q14⟩, hh_140.recv (C := RX1) (T := TX1) (N := 17) hB3 rfl (by decide) hg_about_4 hK, fun U hU hW => ⟨rfl, hU, hh_140.2.1, hG.step hW hU hh_140.1, va_K.moved hW.alike hK2, hg_about_4, hg_start_141, jP.nil, trivial⟩⟩ rfl rfl hl.1 rfl (lv_room (Nat.le_of_ble_eq_true rfl)) dX11_reply_32 ⟨by rw [hRc]; show _ + 0 ≤ _; omega, by rw [hRs]; show _ + 0 ≤ _; omega⟩) hh_140.1 (fun q _ h => h) (fun q h => h) (fun r_143 u_142 t_142 H_142 locs_142 ht_142 hvm_142 hr_143 hb_142 hz_142 hk_142 hS_142 => ?_)
    rw [ht_142] at hb_142
    obtain ⟨hb_1421, hb_1422, hb_1423, hb_1424, hb_1425⟩ := hb_142
    have hh_142 : jSt (dC, dI) B base G0 G0 EX11_reply s.heap 0 0 [(kernel_138, 7, 2, .ref start_141), (r0, 13, 5, .ref kernel_138), (r1, 10, 2, .int needed_135), (r1, 10, 1, .ref about_4), (r0, 13, 4, .ref bo), (bo, 2, 1, .int pc), (bo, 2, 0, .ref pa), (r0, 13, 3, .ref ou)] [] [([(2, 0), (2, 1)], jOl (dC, dI) G0 2 [bo, ou] s.heap), (jFy, jYb dC dI G0), (jFs11, jSef dC dI G0)] H_142 locs_142 := ((hh_140.call hb_1421 hb_1422 hb_1423 hb_1424 hS_142 rfl (L1 := [(kernel_138, 7, 2, .ref start_141), (r0, 13, 5, .ref kernel_138), (r1, 10, 2, .int needed_135), (r1, 10, 1, .ref about_4), (r0, 13, 4, .ref bo), (bo, 2, 1, .int pc), (bo, 2, 0, .ref pa), (r0, 13, 3, .ref ou)]) [0, 1, 2, 3, 4, 5, 6, 7] rfl rfl (M1 := []) [] rfl rfl (I1 := [([(2, 0), (2, 1)], jOl (dC, dI) G0 2 [bo, ou] s.heap), (jFy, jYb dC dI G0), (jFs11, jSef dC dI G0)]) [0, 1, 2] rfl rfl).more hb_1425)
    clear hh_140 ht_142 hvm_142 hz_142 hk_142 hS_142 hb_1421 hb_1422 hb_1423 hb_1424 hb_1425
    obtain ⟨ret_144, rfl, hg_ret_144⟩ := hr_143
    refine lv_astore_n (lv' := [(2, .ref ret_144), (0, .ref r0), (1, .ref r1)]) hx hb dX11_reply_35 rfl hl (by decide) rfl (fun ls hl => ?_)
    refine lv_aload_n hx hb dX11_reply_36 rfl (lv_at hl 1 rfl) ?_
    refine lv_aload_n hx hb dX11_reply_37 rfl (lv_at hl 2 rfl) ?_
    refine j_ldcSw hx hb hown rstr289 dX11_reply_38 ?_
    have hsz_145 := hh_142.2.2.2.2.2.1
    have htt_145 := hh_142.2.2.2.2.2.2.1
    refine W.room (fun hrc_145 hrs_145 => ?_)
    refine va_callv (A0 := jA base) (H0 := s.heap) (va_runV (As := [.ref r1, .ref str289]) (rest := []) ⟨hx, hb, hml, hown, hts⟩ (uX11_beginAnswer l dC dI ca base B hB hAp hB2 hB10 hB13 hB196 G0 H_142 r0 r1 str289 10 bo pc pa n_pa LC LS) (cwV 2 hts (jgV (jWr_26 _ (List.mem_of_getElem? (i := 7) rfl)) (jWr_26 _ (List.mem_of_getElem? (i := 8) rfl)) (jWr_26 _ (List.mem_of_getElem? (i := 9) rfl)) (jWr_1 _ (List.mem_of_getElem? (i := 2) rfl)) (jWr_26 _ (List.mem_of_getElem? (i := 10) rfl))) rfl rfl rfl (by decide +kernel) ⟨by rw [← hR]; exact Nat.le_of_ble_eq_true rfl, by rw [← hR]; exact Nat.le_of_ble_eq_true rfl⟩) ⟨fun a U g mk q => by obtain ⟨q0, q1, q2, qK, q10, q11, q12, q13, q14, q15, q16, q17⟩ := q; exact ⟨q0, q1, q2, jG.calling g mk a qK, (q10.moved (Vm.Alike.refl U.vm)), q11, q12, q13, q14, q15, q16, q17⟩, hh_142.recv (C := RX11) (T := TX11) (N := 19) hB13 rfl (by decide) hg_r0 hK, fun U hU hW => ⟨rfl, hU, hh_142.2.1, hG.step hW hU hh_142.1, (hstr289.moved hW.alike).kept hh_142.1.2.1, hg_r1, hg_r0, hg_bo, hg_pa, (hh_142.2.2.1.sub (L1 := [(r0, 13, 4, .ref bo), (bo, 2, 1, .int pc), (bo, 2, 0, .ref pa)]) [4, 5, 6] rfl), (hh_142.2.2.2.2.2.2.2.2.sub (L1 := [(jFy, jYb dC dI G0)]) [1] rfl), (by omega), (by omega), ⟨(by first | omega | rfl | assumption | fail), (by first | omega | rfl | assumption | fail), (by first | omega | rfl | assumption | fail), (by first | omega | rfl | assumption | fail), (by first | assumption | fail | omega), (by first | omega | rfl | assumption | fail)⟩⟩⟩ rfl rfl hl.1 rfl (lv_room (Nat.le_of_ble_eq_true rfl)) dX11_reply_41 ⟨by rw [hRc]; omega, by rw [hRs]; omega⟩) hh_142.1 (fun q _ h => h) (fun q h => h) (fun u_145 t_145 H_145 locs_145 ht_145 hvm_145 hr_146 hb_145 hz_145 hk_145 hS_145 => ?_)
    obtain ⟨qc_145, qa_145, m_qa_145, G_145⟩ := u_145
    rw [ht_145] at hb_145
    simp only at hb_145
    obtain ⟨⟨hb_1451, hb_1452, hb_1453, hb_1454, hb_1455, hb_1456⟩, hgq_145_0, hN_145, hbO_145, hbE_145⟩ := hb_145
    have hh_145 : jSt (dC, dI) B base G0 G_145 EX11_reply s.heap (0 + ((m_qa_145 - n_pa) / 16)) (0 + (2 * (m_qa_145 - n_pa))) [(bo, 2, 1, .int qc_145), (bo, 2, 0, .ref qa_145), (kernel_138, 7, 2, .ref start_141), (r0, 13, 5, .ref kernel_138), (r1, 10, 2, .int needed_135), (r1, 10, 1, .ref about_4), (r0, 13, 4, .ref bo), (r0, 13, 3, .ref ou)] [] [(jFs11, jSef dC dI G0)] H_145 locs_145 := (hh_142.callG hb_1451 hb_1452 hb_1453 hb_1454 hb_1455 hS_145 rfl (L1 := [(kernel_138, 7, 2, .ref start_141), (r0, 13, 5, .ref kernel_138), (r1, 10, 2, .int needed_135), (r1, 10, 1, .ref about_4), (r0, 13, 4, .ref bo), (r0, 13, 3, .ref ou)]) [0, 1, 2, 3, 4, 7] rfl rfl (M1 := []) [] rfl rfl (I1 := [(jFs11, jSef dC dI G0)]) [2] rfl rfl).more hb_1456
    have hNn_145 : (jNk [0, 1, 2, 3, 4, 5, 6, 7, 8, 9, 10, 11, 12, 13, 14, 15, 16]) G0 G_145 := (jNk.rf).tr hN_145
    have hg_147 := hb_1452 _ _ hg_ret_144
    have hg_148 := hb_1452 _ _ hg_r0
    have hg_149 := hb_1452 _ _ hg_r1
    have hg_150 := hb_1452 _ _ hg_start_141
    have hg_151 := hb_1452 _ _ hg_kernel_138
    have hg_152 := hb_1452 _ _ hg_about_4
    have hg_153 := hb_1452 _ _ hg_bo
    have hg_154 := hb_1452 _ _ hg_ou
    have hd_155 := jSef.grow (hh_145.iv 0 rfl) hb_1452 hN_145 (by decide)
    have hh_156 := hh_145.sub (L1 := [(bo, 2, 1, .int qc_145), (bo, 2, 0, .ref qa_145), (kernel_138, 7, 2, .ref start_141), (r0, 13, 5, .ref kernel_138), (r1, 10, 2, .int needed_135), (r1, 10, 1, .ref about_4), (r0, 13, 4, .ref bo), (r0, 13, 3, .ref ou)]) [0, 1, 2, 3, 4, 5, 6, 7] rfl (M1 := []) [] rfl (I1 := []) [] rfl
    clear hh_145
    have hh_157 := hh_156.addI (jSef.ie hd_155)
    clear hh_156
    have hh_158 := hh_157.addIs hbE_145
    have hd_159 := jOl.trL (hh_142.iv 0 rfl) hh_142.2.2.2.2.1 hbO_145 (by simp)
    have hh_160 := hh_158.addI (jOl.ie (dC := dC) (dI := dI) (G0 := G0) (k := 2) (rs := [bo, ou]) (H0 := s.heap) (F := [(2, 0), (2, 1)]) (C := RX0) (T := TX0) (N := 2) rfl (by decide) hh_158.2.2.2.2.1 (hd_159))
    clear hh_158
    try simp only at hr_146
    obtain ⟨hr_146_0, hr_146_1, hr_146_2, hr_146_3, hr_146_4⟩ := hr_146
    have hh_161 := hh_160.wk (zc1 := (m_qa_145 - n_pa) / 16) (zs1 := 2 * (m_qa_145 - n_pa)) (by omega) (by omega)
    clear hh_160
    try clear hsz_145 htt_145 hrc_145 hrs_145
    try clear hb_1454 hb_1455
    refine lv_aload_n hx hb dX11_reply_44 rfl (lv_at hl 2 rfl) ?_
    obtain ⟨v_162, hv_162, hh_163⟩ := hh_161.pin (C := RX8) (T := TX8) (N := 5) hB10 rfl (by decide) hg_149 (i := 3) (by decide) rfl
    clear hh_161
    obtain ⟨isStatement_164, rfl, hzisStatement_164⟩ := hv_162
    have hzisStatement_164' := jb_01 hzisStatement_164
    refine j7_read hx hb hown hK (C := RX8) (T := TX8) (N := 5) rfl hly_10_3 hlk_443 (hh_163.at 0 rfl) dX11_reply_45 ?_
    refine lv_if_eq (tgt := 70) hx hb dX11_reply_48 (by decide) (fun c_165 => ?_) (fun c_165 => ?_)
    · skip
      have c_165' : isStatement_164.toInt = 0 := jb_eq (rfl) ((by decide)) c_165
      refine lv_aload_n hx hb dX11_reply_70 rfl (lv_at hl 1 rfl) ?_
      obtain ⟨v_166, hv_166, hh_167⟩ := hh_163.pin (C := RX11) (T := TX11) (N := 19) hB13 rfl (by decide) hg_148 (i := 6) (by decide) rfl
      clear hh_163
      obtain ⟨printer_168, rfl, hg_printer_168⟩ := hv_166
      refine j7_read hx hb hown hK (C := RX11) (T := TX11) (N := 19) rfl hly_13_6 hlk_54 (hh_167.at 0 rfl) dX11_reply_71 ?_
      refine lv_aload_n hx hb dX11_reply_74 rfl (lv_at hl 0 rfl) ?_
      refine lv_aload_n hx hb dX11_reply_75 rfl (lv_at hl 1 rfl) ?_
      refine j7_read hx hb hown hK (C := RX11) (T := TX11) (N := 19) rfl hly_13_4 hlk_35 (hh_167.at 8 rfl) dX11_reply_76 ?_
      have hsz_169 := hh_167.2.2.2.2.2.1
      have htt_169 := hh_167.2.2.2.2.2.2.1
      refine W.room (fun hrc_169 hrs_169 => ?_)
      refine va_callv (A0 := jA base) (H0 := s.heap) (va_runV (As := [.ref ret_144, .ref bo]) (rest := []) ⟨hx, hb, hml, hown, hts⟩ (uX7_proof l dC dI ca base B hB hAp hB2 hB5 hB8 hB9 hB11 hB101 hB102 hB132 hB196 hB214 hB280 hB286 hB287 hB288 hB313 G_145 H_145 printer_168 ret_144 bo qc_145 qa_145 m_qa_145 LC LS) (cwV 2 hts (jgV (jWr_32 _ (List.mem_of_getElem? (i := 21) rfl)) (jWr_32 _ (List.mem_of_getElem? (i := 22) rfl)) (jWr_32 _ (List.mem_of_getElem? (i := 23) rfl)) (jWr_2 _ (List.mem_of_getElem? (i := 8) rfl)) (jWr_33 _ (List.mem_of_getElem? (i := 0) rfl))) rfl rfl rfl (by decide +kernel) ⟨by rw [← hR]; exact Nat.le_of_ble_eq_true rfl, by rw [← hR]; exact Nat.le_of_ble_eq_true rfl⟩) ⟨fun a U g mk q => by obtain ⟨q0, q1, q2, qK, q10, q11, q12, q13, q14, q15, q16, q17⟩ := q; exact ⟨q0, q1, q2, jG.calling g mk a qK, (va_K.moved (Vm.Alike.refl U.vm) q10), (jK5.moved (Vm.Alike.refl U.vm) q11), q12, q13, q14, q15, q16, q17⟩, hh_167.recv (C := RX7) (T := TX7) (N := 5) hB9 rfl (by decide) hg_printer_168 hK, fun U hU hW => ⟨rfl, hU, hh_167.2.1, hG.step hW hU hh_167.1, va_K.moved hW.alike hK2, jK5.moved hW.alike hK5, hg_153, hg_147, hg_printer_168, hgq_145_0, (hh_167.2.2.1.sub (L1 := [(bo, 2, 1, .int qc_145), (bo, 2, 0, .ref qa_145)]) [2, 3] rfl), (by omega), (by omega), ⟨(by first | omega | rfl | assumption | fail), (by first | omega | rfl | assumption | fail), (by first | omega | rfl | assumption | fail), (by first | omega | rfl | assumption | fail), (by first | assumption | fail | omega)⟩⟩⟩ rfl rfl hl.1 rfl (lv_room (Nat.le_of_ble_eq_true rfl)) dX11_reply_79 ⟨by rw [hRc]; omega, by rw [hRs]; omega⟩) hh_167.1 (fun q _ h => h) (fun q h => h) (fun u_169 t_169 H_169 locs_169 ht_169 hvm_169 hr_170 hb_169 hz_169 hk_169 hS_169 => ?_)
      obtain ⟨qc_169, qa_169, m_qa_169, G_169⟩ := u_169
      rw [ht_169] at hb_169
      simp only at hb_169
      obtain ⟨⟨hb_1691, hb_1692, hb_1693, hb_1694, hb_1695, hb_1696⟩, hgq_169_0, hN_169, hbO_169⟩ := hb_169
      have hy_171 := hh_167.iv 1 rfl
      have hh_169 : jSt (dC, dI) B base G0 G_169 EX11_reply s.heap (((m_qa_145 - n_pa) / 16) + ((m_qa_169 - m_qa_145) / 16)) ((2 * (m_qa_145 - n_pa)) + (2 * (m_qa_169 - m_qa_145))) [(bo, 2, 1, .int qc_169), (bo, 2, 0, .ref qa_169), (r0, 13, 6, .ref printer_168), (r1, 10, 3, .int isStatement_164), (kernel_138, 7, 2, .ref start_141), (r0, 13, 5, .ref kernel_138), (r1, 10, 2, .int needed_135), (r1, 10, 1, .ref about_4), (r0, 13, 4, .ref bo), (r0, 13, 3, .ref ou)] [] [(jFs11, jSef dC dI G_145)] H_169 locs_169 := (hh_167.callG hb_1691 hb_1692 hb_1693 hb_1694 hb_1695 hS_169 rfl (L1 := [(r0, 13, 6, .ref printer_168), (r1, 10, 3, .int isStatement_164), (kernel_138, 7, 2, .ref start_141), (r0, 13, 5, .ref kernel_138), (r1, 10, 2, .int needed_135), (r1, 10, 1, .ref about_4), (r0, 13, 4, .ref bo), (r0, 13, 3, .ref ou)]) [0, 1, 4, 5, 6, 7, 8, 9] rfl rfl (M1 := []) [] rfl rfl (I1 := [(jFs11, jSef dC dI G_145)]) [2] rfl rfl).more hb_1696
      have hNn_169 : (jNk [0, 1, 2, 3, 4, 5, 6, 7, 8, 9, 10, 11, 12, 13, 14, 15, 16]) G0 G_169 := (hNn_145).tr hN_169
      have hg_172 := hb_1692 _ _ hg_147
      have hg_173 := hb_1692 _ _ hg_148
      have hg_174 := hb_1692 _ _ hg_149
      have hg_175 := hb_1692 _ _ hg_printer_168
      have hg_176 := hb_1692 _ _ hg_150
      have hg_177 := hb_1692 _ _ hg_151
      have hg_178 := hb_1692 _ _ hg_152
      have hg_179 := hb_1692 _ _ hg_153
      have hg_180 := hb_1692 _ _ hg_154
      have hd_181 := jSef.grow (hh_169.iv 0 rfl) hb_1692 hN_169 (by decide)
      have hh_182 := hh_169.sub (L1 := [(bo, 2, 1, .int qc_169), (bo, 2, 0, .ref qa_169), (r0, 13, 6, .ref printer_168), (r1, 10, 3, .int isStatement_164), (kernel_138, 7, 2, .ref start_141), (r0, 13, 5, .ref kernel_138), (r1, 10, 2, .int needed_135), (r1, 10, 1, .ref about_4), (r0, 13, 4, .ref bo), (r0, 13, 3, .ref ou)]) [0, 1, 2, 3, 4, 5, 6, 7, 8, 9] rfl (M1 := []) [] rfl (I1 := []) [] rfl
      clear hh_169
      have hh_183 := hh_182.addI (jSef.ie hd_181)
      clear hh_182
      have hd_184 := jOl.trO (hh_167.iv 0 rfl) hh_167.2.2.2.2.1 hbO_169 (by simp)
      have hh_185 := hh_183.addI (jOl.ie (dC := dC) (dI := dI) (G0 := G0) (k := 2) (rs := [bo, ou]) (H0 := s.heap) (F := [(2, 0), (2, 1)]) (C := RX0) (T := TX0) (N := 2) rfl (by decide) hh_183.2.2.2.2.1 (hd_184))
      clear hh_183
      have hyp_169 : qc_169.toInt ≤ (m_qa_169 : Nat) ∧ m_qa_169 ≤ 1048576 := by (try simp only at hr_170); omega
      have hy_186 := jYb.own hy_171 hbO_169 hb_1692 hN_169 (by decide) (fun _ => ⟨_, _, _, hh_185.at 0 rfl, hh_185.at 1 rfl, hgq_169_0, hyp_169⟩)
      have hh_187 := hh_185.addI (jYb.ie hy_186)
      clear hh_185
      try simp only at hr_170
      obtain ⟨hr_170_0, hr_170_1, hr_170_2, hr_170_3, hr_170_4⟩ := hr_170
      have hh_188 := hh_187.wk (zc1 := (m_qa_169 - n_pa) / 16) (zs1 := 2 * (m_qa_169 - n_pa)) (by omega) (by omega)
      clear hh_187
      try clear hsz_169 htt_169 hrc_169 hrs_169
      try clear hb_1694 hb_1695
      refine lv_aload_n hx hb dX11_reply_82 rfl (lv_at hl 1 rfl) ?_
      refine j7_read hx hb hown hK (C := RX11) (T := TX11) (N := 19) rfl hly_13_4 hlk_35 (hh_188.at 8 rfl) dX11_reply_83 ?_
      refine lv_bipush (v := 125) hx hb dX11_reply_86 (by decide) ?_
      have hsz_189 := hh_188.2.2.2.2.2.1
      have htt_189 := hh_188.2.2.2.2.2.2.1
      refine W.room (fun hrc_189 hrs_189 => ?_)
      refine va_callv (A0 := jA base) (H0 := s.heap) (va_runV (As := [.int 125]) (rest := []) ⟨hx, hb, hml, hown, hts⟩ (uX0_put l dC dI ca base B hB hAp hB2 hB196 G_169 H_169 bo 125 qc_169 qa_169 m_qa_169 LC LS) (cwV 1 hts (jgV (jWr_15 _ (List.mem_of_getElem? (i := 23) rfl)) (jWr_16 _ (List.mem_of_getElem? (i := 0) rfl)) (jWr_16 _ (List.mem_of_getElem? (i := 1) rfl)) (jWr_1 _ (List.mem_of_getElem? (i := 14) rfl)) (jWr_16 _ (List.mem_of_getElem? (i := 2) rfl))) rfl rfl rfl (by decide +kernel) ⟨by rw [← hR]; exact Nat.le_of_ble_eq_true rfl, by rw [← hR]; exact Nat.le_of_ble_eq_true rfl⟩) ⟨fun a U g mk q => by obtain ⟨q0, q1, q2, qK, q10, q11, q12, q13⟩ := q; exact ⟨q0, q1, q2, jG.calling g mk a qK, q10, q11, q12, q13⟩, hh_188.recv (C := RX0) (T := TX0) (N := 2) hB2 rfl (by decide) hg_179 hK, fun U hU hW => ⟨rfl, hU, hh_188.2.1, hG.step hW hU hh_188.1, hg_179, hgq_169_0, (hh_188.2.2.1.sub (L1 := [(bo, 2, 1, .int qc_169), (bo, 2, 0, .ref qa_169)]) [0, 1] rfl), (by omega), (by omega), ⟨(by first | omega | rfl | assumption | fail), (by first | omega | rfl | assumption | fail), (by first | omega | rfl | assumption | fail), (by first | omega | rfl | assumption | fail), (by first | assumption | fail | omega)⟩⟩⟩ rfl rfl hl.1 rfl (lv_room (Nat.le_of_ble_eq_true rfl)) dX11_reply_88 ⟨by rw [hRc]; omega, by rw [hRs]; omega⟩) hh_188.1 (fun q _ h => h) (fun q h => h) (fun u_189 t_189 H_189 locs_189 ht_189 hvm_189 hr_190 hb_189 hz_189 hk_189 hS_189 => ?_)
      obtain ⟨qc_189, qa_189, m_qa_189, G_189⟩ := u_189
      rw [ht_189] at hb_189
      simp only at hb_189
      obtain ⟨⟨hb_1891, hb_1892, hb_1893, hb_1894, hb_1895, hb_1896⟩, hgq_189_0, hN_189, hbO_189⟩ := hb_189
      have hy_191 := hh_188.iv 0 rfl
      have hh_189 : jSt (dC, dI) B base G0 G_189 EX11_reply s.heap (((m_qa_169 - n_pa) / 16) + ((m_qa_189 - m_qa_169) / 16)) ((2 * (m_qa_169 - n_pa)) + (2 * (m_qa_189 - m_qa_169))) [(bo, 2, 1, .int qc_189), (bo, 2, 0, .ref qa_189), (r0, 13, 6, .ref printer_168), (r1, 10, 3, .int isStatement_164), (kernel_138, 7, 2, .ref start_141), (r0, 13, 5, .ref kernel_138), (r1, 10, 2, .int needed_135), (r1, 10, 1, .ref about_4), (r0, 13, 4, .ref bo), (r0, 13, 3, .ref ou)] [] [(jFs11, jSef dC dI G_169)] H_189 locs_189 := (hh_188.callG hb_1891 hb_1892 hb_1893 hb_1894 hb_1895 hS_189 rfl (L1 := [(r0, 13, 6, .ref printer_168), (r1, 10, 3, .int isStatement_164), (kernel_138, 7, 2, .ref start_141), (r0, 13, 5, .ref kernel_138), (r1, 10, 2, .int needed_135), (r1, 10, 1, .ref about_4), (r0, 13, 4, .ref bo), (r0, 13, 3, .ref ou)]) [2, 3, 4, 5, 6, 7, 8, 9] rfl rfl (M1 := []) [] rfl rfl (I1 := [(jFs11, jSef dC dI G_169)]) [2] rfl rfl).more hb_1896
      have hNn_189 : (jNk [0, 1, 2, 3, 4, 5, 6, 7, 8, 9, 10, 11, 12, 13, 14, 15, 16]) G0 G_189 := (hNn_169).tr hN_189
      have hg_192 := hb_1892 _ _ hg_172
      have hg_193 := hb_1892 _ _ hg_173
      have hg_194 := hb_1892 _ _ hg_174
      have hg_195 := hb_1892 _ _ hg_175
      have hg_196 := hb_1892 _ _ hg_176
      have hg_197 := hb_1892 _ _ hg_177
      have hg_198 := hb_1892 _ _ hg_178
      have hg_199 := hb_1892 _ _ hg_179
      have hg_200 := hb_1892 _ _ hg_180
      have hd_201 := jSef.grow (hh_189.iv 0 rfl) hb_1892 hN_189 (by decide)
      have hh_202 := hh_189.sub (L1 := [(bo, 2, 1, .int qc_189), (bo, 2, 0, .ref qa_189), (r0, 13, 6, .ref printer_168), (r1, 10, 3, .int isStatement_164), (kernel_138, 7, 2, .ref start_141), (r0, 13, 5, .ref kernel_138), (r1, 10, 2, .int needed_135), (r1, 10, 1, .ref about_4), (r0, 13, 4, .ref bo), (r0, 13, 3, .ref ou)]) [0, 1, 2, 3, 4, 5, 6, 7, 8, 9] rfl (M1 := []) [] rfl (I1 := []) [] rfl
      clear hh_189
      have hh_203 := hh_202.addI (jSef.ie hd_201)
      clear hh_202
      have hd_204 := jOl.trO (hh_188.iv 1 rfl) hh_188.2.2.2.2.1 hbO_189 (by simp)
      have hh_205 := hh_203.addI (jOl.ie (dC := dC) (dI := dI) (G0 := G0) (k := 2) (rs := [bo, ou]) (H0 := s.heap) (F := [(2, 0), (2, 1)]) (C := RX0) (T := TX0) (N := 2) rfl (by decide) hh_203.2.2.2.2.1 (hd_204))
      clear hh_203
      have hyp_189 : qc_189.toInt ≤ (m_qa_189 : Nat) ∧ m_qa_189 ≤ 1048576 := by (try simp only at hr_190); omega
      have hy_206 := jYb.own hy_191 hbO_189 hb_1892 hN_189 (by decide) (fun _ => ⟨_, _, _, hh_205.at 0 rfl, hh_205.at 1 rfl, hgq_189_0, hyp_189⟩)
      have hh_207 := hh_205.addI (jYb.ie hy_206)
      clear hh_205
      try simp only at hr_190
      obtain ⟨hr_190_0, hr_190_1, hr_190_2, hr_190_3, hr_190_4⟩ := hr_190
      have hh_208 := hh_207.wk (zc1 := (m_qa_189 - n_pa) / 16) (zs1 := 2 * (m_qa_189 - n_pa)) (by omega) (by omega)
      clear hh_207
      try clear hsz_189 htt_189 hrc_189 hrs_189
      try clear hb_1894 hb_1895
      refine lv_aload_n hx hb dX11_reply_91 rfl (lv_at hl 1 rfl) ?_
      obtain ⟨v_211, hv_211, hh_212⟩ := hh_208.pin (C := RX0) (T := TX0) (N := 2) hB2 rfl (by decide) hg_200 (i := 1) (by decide) rfl
      obtain ⟨count_213, rfl, hlocount_213, hhicount_213, hfxcount_213⟩ := hv_211
      obtain ⟨v_214, hv_214, hh_215⟩ := hh_212.pin (C := RX0) (T := TX0) (N := 2) hB2 rfl (by decide) hg_200 (i := 0) (by decide) rfl
      obtain ⟨row_216, nrow_216, rfl, hg_row_216, hlorow_216, hhirow_216, hpwrow_216, hfxrow_216⟩ := hv_214
      have hsz_209 := hh_215.2.2.2.2.2.1
      have htt_209 := hh_215.2.2.2.2.2.2.1
      refine W.room (fun hrc_209 hrs_209 => ?_)
      refine va_callv (A0 := jA base) (H0 := s.heap) (va_runV (As := []) (rest := []) ⟨hx, hb, hml, hown, hts⟩ (uX11_send l dC dI ca base B hB hAp hB2 hB4 hB13 hB196 G_189 H_189 r0 bo qc_189 qa_189 m_qa_189 ou count_213 row_216 nrow_216) (cwV 0 hts (jgV (jWr_26 _ (List.mem_of_getElem? (i := 20) rfl)) (jWr_26 _ (List.mem_of_getElem? (i := 21) rfl)) (jWr_26 _ (List.mem_of_getElem? (i := 22) rfl)) (jWr_1 _ (List.mem_of_getElem? (i := 2) rfl)) (jWr_26 _ (List.mem_of_getElem? (i := 23) rfl))) rfl rfl rfl (by decide +kernel) ⟨by rw [← hR]; exact Nat.le_of_ble_eq_true rfl, by rw [← hR]; exact Nat.le_of_ble_eq_true rfl⟩) ⟨fun a U g mk q => by obtain ⟨q0, q1, q2, qK, q10, q11, q12, q13, q14, q15, q16, q17⟩ := q; exact ⟨q0, q1, q2, jG.calling g mk a qK, q10, q11, q12, q13, q14, q15, q16, q17⟩, hh_215.recv (C := RX11) (T := TX11) (N := 19) hB13 rfl (by decide) hg_193 hK, fun U hU hW => ⟨rfl, hU, hh_215.2.1, hG.step hW hU hh_215.1, hg_193, hg_199, hgq_189_0, hg_200, hg_row_216, (hh_215.2.2.1.sub (L1 := [(r0, 13, 4, .ref bo), (bo, 2, 1, .int qc_189), (bo, 2, 0, .ref qa_189), (r0, 13, 3, .ref ou), (ou, 2, 1, .int count_213), (ou, 2, 0, .ref row_216)]) [10, 2, 3, 11, 1, 0] rfl), (hh_215.2.2.2.2.2.2.2.2.sub (L1 := [(jFy, jYb dC dI G_189)]) [0] rfl), ⟨(by first | omega | rfl | assumption | fail), (by first | omega | rfl | assumption | fail), (by first | omega | rfl | assumption | fail), (by first | omega | rfl | assumption | fail), (by first | omega | rfl | assumption | fail), (by first | omega | rfl | assumption | fail)⟩⟩⟩ rfl rfl hl.1 rfl (lv_room (Nat.le_of_ble_eq_true rfl)) dX11_reply_92 ⟨by rw [hRc]; show _ + 0 ≤ _; omega, by rw [hRs]; show _ + 0 ≤ _; omega⟩) hh_215.1 (fun q _ h => h) (fun q h => h) (fun u_209 t_209 H_209 locs_209 ht_209 hvm_209 hr_210 hb_209 hz_209 hk_209 hS_209 => ?_)
      rw [ht_209] at hb_209
      obtain ⟨hb_209, hbE_209⟩ := hb_209
      obtain ⟨hb_209, hbO_209⟩ := hb_209
      obtain ⟨hb_2091, hb_2092, hb_2093, hb_2094, hb_2095⟩ := hb_209
      have hh_209 : jSt (dC, dI) B base G0 G_189 EX11_reply s.heap ((m_qa_189 - n_pa) / 16) (2 * (m_qa_189 - n_pa)) [(r0, 13, 6, .ref printer_168), (r1, 10, 3, .int isStatement_164), (kernel_138, 7, 2, .ref start_141), (r0, 13, 5, .ref kernel_138), (r1, 10, 2, .int needed_135), (r1, 10, 1, .ref about_4), (r0, 13, 4, .ref bo), (r0, 13, 3, .ref ou)] [] [(jFy, jYb dC dI G_189), (jFs11, jSef dC dI G_189)] H_209 locs_209 := (((hh_215.call hb_2091 hb_2092 hb_2093 hb_2094 hS_209 rfl (L1 := [(r0, 13, 6, .ref printer_168), (r1, 10, 3, .int isStatement_164), (kernel_138, 7, 2, .ref start_141), (r0, 13, 5, .ref kernel_138), (r1, 10, 2, .int needed_135), (r1, 10, 1, .ref about_4), (r0, 13, 4, .ref bo), (r0, 13, 3, .ref ou)]) [4, 5, 6, 7, 8, 9, 10, 11] rfl rfl (M1 := []) [] rfl rfl (I1 := [(jFs11, jSef dC dI G_189)]) [2] rfl rfl).more hb_2095)).addIs hbE_209
      have hh_217 := hh_209.more (P1 := [(bo, 2, 1, .int qc_189), (bo, 2, 0, .ref qa_189)]) (jP.cons hg_199 (hbO_209 _ _ _ _ (jn1 (by first | assumption | exact Ne.symm (by assumption) | exact jnek hg_199 hg_200 (by decide))) hg_199 (hh_215.at 2 rfl)) (jP.cons hg_199 (hbO_209 _ _ _ _ (jn1 (by first | assumption | exact Ne.symm (by assumption) | exact jnek hg_199 hg_200 (by decide))) hg_199 (hh_215.at 3 rfl)) jP.nil))
      have hd_218 := jOl.trL (hh_215.iv 1 rfl) hh_215.2.2.2.2.1 hbO_209 (by simp)
      have hh_219 := hh_217.addI (jOl.ie (dC := dC) (dI := dI) (G0 := G0) (k := 2) (rs := [bo, ou]) (H0 := s.heap) (F := [(2, 0), (2, 1)]) (C := RX0) (T := TX0) (N := 2) rfl (by decide) hh_217.2.2.2.2.1 (hd_218))
      clear hh_217
      clear hh_215 ht_209 hvm_209 hz_209 hk_209 hS_209 hb_2091 hb_2092 hb_2093 hb_2094 hb_2095
      clear  hbE_209
      have hsz_220 := hh_219.2.2.2.2.2.1
      have htt_220 := hh_219.2.2.2.2.2.2.1
      refine W.room (fun hrc_220 hrs_220 => ?_)
      refine W.widen (k := LC - s.heap.size) (n := LS - jTot s.heap) (by omega) (by omega) ?_
      rw [hQ]
      exact W.vret hx hb hr (fun t ht hW => ⟨⟨(qc_189, qa_189, m_qa_189, G_189), rfl, by (try dsimp only); exact ⟨(by first | omega | rfl | assumption | fail), (by first | omega | rfl | assumption | fail), (by first | omega | rfl | assumption | fail), (by first | omega | rfl | assumption | fail), (by first | assumption | fail | omega)⟩, ⟨hh_219.ra (by first | omega | (simp only; omega)) (by first | omega | (simp only; omega)) (M1 := [(bo, 2, 1, .int qc_189), (bo, 2, 0, .ref qa_189)]) [0, 1] rfl ht, hgq_189_0, hNn_189, by rw [ht]; exact hh_219.iv 0 rfl, by rw [ht]; exact hh_219.2.2.2.2.2.2.2.2.sub (L1 := [(jFy, jYb dC dI G_189), (jFs11, jSef dC dI G_189)]) [1, 2] rfl⟩⟩, by rw [ht]; try exact hh_219.1.1, fun q h9 hq => by rw [ht]; try exact hh_219.1.2.1 q h9 hq⟩) hh_219.1.2.2 dX11_reply_95
    · skip
      have c_165' : isStatement_164.toInt ≠ 0 := jb_eq_n (rfl) ((by decide)) c_165
      refine lv_aload_n hx hb dX11_reply_51 rfl (lv_at hl 1 rfl) ?_
      obtain ⟨v_221, hv_221, hh_222⟩ := hh_163.pin (C := RX11) (T := TX11) (N := 19) hB13 rfl (by decide) hg_148 (i := 6) (by decide) rfl
      clear hh_163
      obtain ⟨printer_223, rfl, hg_printer_223⟩ := hv_221
      refine j7_read hx hb hown hK (C := RX11) (T := TX11) (N := 19) rfl hly_13_6 hlk_54 (hh_222.at 0 rfl) dX11_reply_52 ?_
      refine lv_aload_n hx hb dX11_reply_55 rfl (lv_at hl 0 rfl) ?_
      refine lv_aload_n hx hb dX11_reply_56 rfl (lv_at hl 2 rfl) ?_
      obtain ⟨v_224, hv_224, hh_225⟩ := hh_222.pin (C := RX8) (T := TX8) (N := 5) hB10 rfl (by decide) hg_149 (i := 4) (by decide) rfl
      clear hh_222
      obtain ⟨name_226, rfl⟩ := hv_224
      refine j7_read hx hb hown hK (C := RX8) (T := TX8) (N := 5) rfl hly_10_4 hlk_451 (hh_225.at 0 rfl) dX11_reply_57 ?_
      refine lv_aload_n hx hb dX11_reply_60 rfl (lv_at hl 1 rfl) ?_
      refine j7_read hx hb hown hK (C := RX11) (T := TX11) (N := 19) rfl hly_13_4 hlk_35 (hh_225.at 9 rfl) dX11_reply_61 ?_
      have hsz_227 := hh_225.2.2.2.2.2.1
      have htt_227 := hh_225.2.2.2.2.2.2.1
      refine W.room (fun hrc_227 hrs_227 => ?_)
      refine va_callv (A0 := jA base) (H0 := s.heap) (va_runV (As := [.ref ret_144, .int name_226, .ref bo]) (rest := []) ⟨hx, hb, hml, hown, hts⟩ (uX7_statement l dC dI ca base B hB hAp hB2 hB8 hB9 hB11 hB101 hB102 hB132 hB196 hB280 hB286 hB287 hB288 hB313 G_145 H_145 printer_223 ret_144 name_226 bo qc_145 qa_145 m_qa_145 LC LS) (cwV 3 hts (jgV (jWr_30 _ (List.mem_of_getElem? (i := 13) rfl)) (jWr_30 _ (List.mem_of_getElem? (i := 14) rfl)) (jWr_30 _ (List.mem_of_getElem? (i := 15) rfl)) (jWr_2 _ (List.mem_of_getElem? (i := 8) rfl)) (jWr_30 _ (List.mem_of_getElem? (i := 16) rfl))) rfl rfl rfl (by decide +kernel) ⟨by rw [← hR]; exact Nat.le_of_ble_eq_true rfl, by rw [← hR]; exact Nat.le_of_ble_eq_true rfl⟩) ⟨fun a U g mk q => by obtain ⟨q0, q1, q2, qK, q10, q11, q12, q13, q14, q15, q16, q17⟩ := q; exact ⟨q0, q1, q2, jG.calling g mk a qK, (jK5.moved (Vm.Alike.refl U.vm) q10), q11, q12, q13, q14, q15, q16, q17⟩, hh_225.recv (C := RX7) (T := TX7) (N := 5) hB9 rfl (by decide) hg_printer_223 hK, fun U hU hW => ⟨rfl, hU, hh_225.2.1, hG.step hW hU hh_225.1, jK5.moved hW.alike hK5, hg_153, hg_147, hg_printer_223, hgq_145_0, (hh_225.2.2.1.sub (L1 := [(bo, 2, 1, .int qc_145), (bo, 2, 0, .ref qa_145)]) [3, 4] rfl), (hh_225.2.2.2.2.2.2.2.2.sub (L1 := [(jFs11, jSef dC dI G_145)]) [2] rfl), (by omega), (by omega), ⟨(by first | omega | rfl | assumption | fail), (by first | omega | rfl | assumption | fail), (by first | omega | rfl | assumption | fail), (by first | omega | rfl | assumption | fail), (by first | assumption | fail | omega)⟩⟩⟩ rfl rfl hl.1 rfl (lv_room (Nat.le_of_ble_eq_true rfl)) dX11_reply_64 ⟨by rw [hRc]; omega, by rw [hRs]; omega⟩) hh_225.1 (fun q _ h => h) (fun q h => h) (fun u_227 t_227 H_227 locs_227 ht_227 hvm_227 hr_228 hb_227 hz_227 hk_227 hS_227 => ?_)
      obtain ⟨qc_227, qa_227, m_qa_227, G_227⟩ := u_227
      rw [ht_227] at hb_227
      simp only at hb_227
      obtain ⟨⟨hb_2271, hb_2272, hb_2273, hb_2274, hb_2275, hb_2276⟩, hgq_227_0, hN_227, hbO_227, hbE_227⟩ := hb_227
      have hy_229 := hh_225.iv 1 rfl
      have hh_227 : jSt (dC, dI) B base G0 G_227 EX11_reply s.heap (((m_qa_145 - n_pa) / 16) + ((m_qa_227 - m_qa_145) / 16)) ((2 * (m_qa_145 - n_pa)) + (2 * (m_qa_227 - m_qa_145))) [(bo, 2, 1, .int qc_227), (bo, 2, 0, .ref qa_227), (r1, 10, 4, .int name_226), (r0, 13, 6, .ref printer_223), (r1, 10, 3, .int isStatement_164), (kernel_138, 7, 2, .ref start_141), (r0, 13, 5, .ref kernel_138), (r1, 10, 2, .int needed_135), (r1, 10, 1, .ref about_4), (r0, 13, 4, .ref bo), (r0, 13, 3, .ref ou)] [] [] H_227 locs_227 := (hh_225.callG hb_2271 hb_2272 hb_2273 hb_2274 hb_2275 hS_227 rfl (L1 := [(r1, 10, 4, .int name_226), (r0, 13, 6, .ref printer_223), (r1, 10, 3, .int isStatement_164), (kernel_138, 7, 2, .ref start_141), (r0, 13, 5, .ref kernel_138), (r1, 10, 2, .int needed_135), (r1, 10, 1, .ref about_4), (r0, 13, 4, .ref bo), (r0, 13, 3, .ref ou)]) [0, 1, 2, 5, 6, 7, 8, 9, 10] rfl rfl (M1 := []) [] rfl rfl (I1 := []) [] rfl rfl).more hb_2276
      have hNn_227 : (jNk [0, 1, 2, 3, 4, 5, 6, 7, 8, 9, 10, 11, 12, 13, 14, 15, 16]) G0 G_227 := (hNn_145).tr hN_227
      have hg_230 := hb_2272 _ _ hg_147
      have hg_231 := hb_2272 _ _ hg_148
      have hg_232 := hb_2272 _ _ hg_149
      have hg_233 := hb_2272 _ _ hg_printer_223
      have hg_234 := hb_2272 _ _ hg_150
      have hg_235 := hb_2272 _ _ hg_151
      have hg_236 := hb_2272 _ _ hg_152
      have hg_237 := hb_2272 _ _ hg_153
      have hg_238 := hb_2272 _ _ hg_154
      have hh_239 := hh_227.addIs hbE_227
      have hd_240 := jOl.trO (hh_225.iv 0 rfl) hh_225.2.2.2.2.1 hbO_227 (by simp)
      have hh_241 := hh_239.addI (jOl.ie (dC := dC) (dI := dI) (G0 := G0) (k := 2) (rs := [bo, ou]) (H0 := s.heap) (F := [(2, 0), (2, 1)]) (C := RX0) (T := TX0) (N := 2) rfl (by decide) hh_239.2.2.2.2.1 (hd_240))
      clear hh_239
      have hyp_227 : qc_227.toInt ≤ (m_qa_227 : Nat) ∧ m_qa_227 ≤ 1048576 := by (try simp only at hr_228); omega
      have hy_242 := jYb.own hy_229 hbO_227 hb_2272 hN_227 (by decide) (fun _ => ⟨_, _, _, hh_241.at 0 rfl, hh_241.at 1 rfl, hgq_227_0, hyp_227⟩)
      have hh_243 := hh_241.addI (jYb.ie hy_242)
      clear hh_241
      try simp only at hr_228
      obtain ⟨hr_228_0, hr_228_1, hr_228_2, hr_228_3, hr_228_4⟩ := hr_228
      have hh_244 := hh_243.wk (zc1 := (m_qa_227 - n_pa) / 16) (zs1 := 2 * (m_qa_227 - n_pa)) (by omega) (by omega)
      clear hh_243
      try clear hsz_227 htt_227 hrc_227 hrs_227
      try clear hb_2274 hb_2275
      refine lv_goto (tgt := 82) hx hb dX11_reply_67 (by decide) ?_
      refine lv_aload_n hx hb dX11_reply_82 rfl (lv_at hl 1 rfl) ?_
      refine j7_read hx hb hown hK (C := RX11) (T := TX11) (N := 19) rfl hly_13_4 hlk_35 (hh_244.at 9 rfl) dX11_reply_83 ?_
      refine lv_bipush (v := 125) hx hb dX11_reply_86 (by decide) ?_
      have hsz_245 := hh_244.2.2.2.2.2.1
      have htt_245 := hh_244.2.2.2.2.2.2.1
      refine W.room (fun hrc_245 hrs_245 => ?_)
      refine va_callv (A0 := jA base) (H0 := s.heap) (va_runV (As := [.int 125]) (rest := []) ⟨hx, hb, hml, hown, hts⟩ (uX0_put l dC dI ca base B hB hAp hB2 hB196 G_227 H_227 bo 125 qc_227 qa_227 m_qa_227 LC LS) (cwV 1 hts (jgV (jWr_15 _ (List.mem_of_getElem? (i := 23) rfl)) (jWr_16 _ (List.mem_of_getElem? (i := 0) rfl)) (jWr_16 _ (List.mem_of_getElem? (i := 1) rfl)) (jWr_1 _ (List.mem_of_getElem? (i := 14) rfl)) (jWr_16 _ (List.mem_of_getElem? (i := 2) rfl))) rfl rfl rfl (by decide +kernel) ⟨by rw [← hR]; exact Nat.le_of_ble_eq_true rfl, by rw [← hR]; exact Nat.le_of_ble_eq_true rfl⟩) ⟨fun a U g mk q => by obtain ⟨q0, q1, q2, qK, q10, q11, q12, q13⟩ := q; exact ⟨q0, q1, q2, jG.calling g mk a qK, q10, q11, q12, q13⟩, hh_244.recv (C := RX0) (T := TX0) (N := 2) hB2 rfl (by decide) hg_237 hK, fun U hU hW => ⟨rfl, hU, hh_244.2.1, hG.step hW hU hh_244.1, hg_237, hgq_227_0, (hh_244.2.2.1.sub (L1 := [(bo, 2, 1, .int qc_227), (bo, 2, 0, .ref qa_227)]) [0, 1] rfl), (by omega), (by omega), ⟨(by first | omega | rfl | assumption | fail), (by first | omega | rfl | assumption | fail), (by first | omega | rfl | assumption | fail), (by first | omega | rfl | assumption | fail), (by first | assumption | fail | omega)⟩⟩⟩ rfl rfl hl.1 rfl (lv_room (Nat.le_of_ble_eq_true rfl)) dX11_reply_88 ⟨by rw [hRc]; omega, by rw [hRs]; omega⟩) hh_244.1 (fun q _ h => h) (fun q h => h) (fun u_245 t_245 H_245 locs_245 ht_245 hvm_245 hr_246 hb_245 hz_245 hk_245 hS_245 => ?_)
      obtain ⟨qc_245, qa_245, m_qa_245, G_245⟩ := u_245
      rw [ht_245] at hb_245
      simp only at hb_245
      obtain ⟨⟨hb_2451, hb_2452, hb_2453, hb_2454, hb_2455, hb_2456⟩, hgq_245_0, hN_245, hbO_245⟩ := hb_245
      have hy_247 := hh_244.iv 0 rfl
      have hh_245 : jSt (dC, dI) B base G0 G_245 EX11_reply s.heap (((m_qa_227 - n_pa) / 16) + ((m_qa_245 - m_qa_227) / 16)) ((2 * (m_qa_227 - n_pa)) + (2 * (m_qa_245 - m_qa_227))) [(bo, 2, 1, .int qc_245), (bo, 2, 0, .ref qa_245), (r1, 10, 4, .int name_226), (r0, 13, 6, .ref printer_223), (r1, 10, 3, .int isStatement_164), (kernel_138, 7, 2, .ref start_141), (r0, 13, 5, .ref kernel_138), (r1, 10, 2, .int needed_135), (r1, 10, 1, .ref about_4), (r0, 13, 4, .ref bo), (r0, 13, 3, .ref ou)] [] [(jFs11, jSef dC dI G_227)] H_245 locs_245 := (hh_244.callG hb_2451 hb_2452 hb_2453 hb_2454 hb_2455 hS_245 rfl (L1 := [(r1, 10, 4, .int name_226), (r0, 13, 6, .ref printer_223), (r1, 10, 3, .int isStatement_164), (kernel_138, 7, 2, .ref start_141), (r0, 13, 5, .ref kernel_138), (r1, 10, 2, .int needed_135), (r1, 10, 1, .ref about_4), (r0, 13, 4, .ref bo), (r0, 13, 3, .ref ou)]) [2, 3, 4, 5, 6, 7, 8, 9, 10] rfl rfl (M1 := []) [] rfl rfl (I1 := [(jFs11, jSef dC dI G_227)]) [2] rfl rfl).more hb_2456
      have hNn_245 : (jNk [0, 1, 2, 3, 4, 5, 6, 7, 8, 9, 10, 11, 12, 13, 14, 15, 16]) G0 G_245 := (hNn_227).tr hN_245
      have hg_248 := hb_2452 _ _ hg_230
      have hg_249 := hb_2452 _ _ hg_231
      have hg_250 := hb_2452 _ _ hg_232
      have hg_251 := hb_2452 _ _ hg_233
      have hg_252 := hb_2452 _ _ hg_234
      have hg_253 := hb_2452 _ _ hg_235
      have hg_254 := hb_2452 _ _ hg_236
      have hg_255 := hb_2452 _ _ hg_237
      have hg_256 := hb_2452 _ _ hg_238
      have hd_257 := jSef.grow (hh_245.iv 0 rfl) hb_2452 hN_245 (by decide)
      have hh_258 := hh_245.sub (L1 := [(bo, 2, 1, .int qc_245), (bo, 2, 0, .ref qa_245), (r1, 10, 4, .int name_226), (r0, 13, 6, .ref printer_223), (r1, 10, 3, .int isStatement_164), (kernel_138, 7, 2, .ref start_141), (r0, 13, 5, .ref kernel_138), (r1, 10, 2, .int needed_135), (r1, 10, 1, .ref about_4), (r0, 13, 4, .ref bo), (r0, 13, 3, .ref ou)]) [0, 1, 2, 3, 4, 5, 6, 7, 8, 9, 10] rfl (M1 := []) [] rfl (I1 := []) [] rfl
      clear hh_245
      have hh_259 := hh_258.addI (jSef.ie hd_257)
      clear hh_258
      have hd_260 := jOl.trO (hh_244.iv 1 rfl) hh_244.2.2.2.2.1 hbO_245 (by simp)
      have hh_261 := hh_259.addI (jOl.ie (dC := dC) (dI := dI) (G0 := G0) (k := 2) (rs := [bo, ou]) (H0 := s.heap) (F := [(2, 0), (2, 1)]) (C := RX0) (T := TX0) (N := 2) rfl (by decide) hh_259.2.2.2.2.1 (hd_260))
      clear hh_259
      have hyp_245 : qc_245.toInt ≤ (m_qa_245 : Nat) ∧ m_qa_245 ≤ 1048576 := by (try simp only at hr_246); omega
      have hy_262 := jYb.own hy_247 hbO_245 hb_2452 hN_245 (by decide) (fun _ => ⟨_, _, _, hh_261.at 0 rfl, hh_261.at 1 rfl, hgq_245_0, hyp_245⟩)
      have hh_263 := hh_261.addI (jYb.ie hy_262)
      clear hh_261
      try simp only at hr_246
      obtain ⟨hr_246_0, hr_246_1, hr_246_2, hr_246_3, hr_246_4⟩ := hr_246
      have hh_264 := hh_263.wk (zc1 := (m_qa_245 - n_pa) / 16) (zs1 := 2 * (m_qa_245 - n_pa)) (by omega) (by omega)
      clear hh_263
      try clear hsz_245 htt_245 hrc_245 hrs_245
      try clear hb_2454 hb_2455
      refine lv_aload_n hx hb dX11_reply_91 rfl (lv_at hl 1 rfl) ?_
      obtain ⟨v_267, hv_267, hh_268⟩ := hh_264.pin (C := RX0) (T := TX0) (N := 2) hB2 rfl (by decide) hg_256 (i := 1) (by decide) rfl
      obtain ⟨count_269, rfl, hlocount_269, hhicount_269, hfxcount_269⟩ := hv_267
      obtain ⟨v_270, hv_270, hh_271⟩ := hh_268.pin (C := RX0) (T := TX0) (N := 2) hB2 rfl (by decide) hg_256 (i := 0) (by decide) rfl
      obtain ⟨row_272, nrow_272, rfl, hg_row_272, hlorow_272, hhirow_272, hpwrow_272, hfxrow_272⟩ := hv_270
      have hsz_265 := hh_271.2.2.2.2.2.1
      have htt_265 := hh_271.2.2.2.2.2.2.1
      refine W.room (fun hrc_265 hrs_265 => ?_)
      refine va_callv (A0 := jA base) (H0 := s.heap) (va_runV (As := []) (rest := []) ⟨hx, hb, hml, hown, hts⟩ (uX11_send l dC dI ca base B hB hAp hB2 hB4 hB13 hB196 G_245 H_245 r0 bo qc_245 qa_245 m_qa_245 ou count_269 row_272 nrow_272) (cwV 0 hts (jgV (jWr_26 _ (List.mem_of_getElem? (i := 20) rfl)) (jWr_26 _ (List.mem_of_getElem? (i := 21) rfl)) (jWr_26 _ (List.mem_of_getElem? (i := 22) rfl)) (jWr_1 _ (List.mem_of_getElem? (i := 2) rfl)) (jWr_26 _ (List.mem_of_getElem? (i := 23) rfl))) rfl rfl rfl (by decide +kernel) ⟨by rw [← hR]; exact Nat.le_of_ble_eq_true rfl, by rw [← hR]; exact Nat.le_of_ble_eq_true rfl⟩) ⟨fun a U g mk q => by obtain ⟨q0, q1, q2, qK, q10, q11, q12, q13, q14, q15, q16, q17⟩ := q; exact ⟨q0, q1, q2, jG.calling g mk a qK, q10, q11, q12, q13, q14, q15, q16, q17⟩, hh_271.recv (C := RX11) (T := TX11) (N := 19) hB13 rfl (by decide) hg_249 hK, fun U hU hW => ⟨rfl, hU, hh_271.2.1, hG.step hW hU hh_271.1, hg_249, hg_255, hgq_245_0, hg_256, hg_row_272, (hh_271.2.2.1.sub (L1 := [(r0, 13, 4, .ref bo), (bo, 2, 1, .int qc_245), (bo, 2, 0, .ref qa_245), (r0, 13, 3, .ref ou), (ou, 2, 1, .int count_269), (ou, 2, 0, .ref row_272)]) [11, 2, 3, 12, 1, 0] rfl), (hh_271.2.2.2.2.2.2.2.2.sub (L1 := [(jFy, jYb dC dI G_245)]) [0] rfl), ⟨(by first | omega | rfl | assumption | fail), (by first | omega | rfl | assumption | fail), (by first | omega | rfl | assumption | fail), (by first | omega | rfl | assumption | fail), (by first | omega | rfl | assumption | fail), (by first | omega | rfl | assumption | fail)⟩⟩⟩ rfl rfl hl.1 rfl (lv_room (Nat.le_of_ble_eq_true rfl)) dX11_reply_92 ⟨by rw [hRc]; show _ + 0 ≤ _; omega, by rw [hRs]; show _ + 0 ≤ _; omega⟩) hh_271.1 (fun q _ h => h) (fun q h => h) (fun u_265 t_265 H_265 locs_265 ht_265 hvm_265 hr_266 hb_265 hz_265 hk_265 hS_265 => ?_)
      rw [ht_265] at hb_265
      obtain ⟨hb_265, hbE_265⟩ := hb_265
      obtain ⟨hb_265, hbO_265⟩ := hb_265
      obtain ⟨hb_2651, hb_2652, hb_2653, hb_2654, hb_2655⟩ := hb_265
      have hh_265 : jSt (dC, dI) B base G0 G_245 EX11_reply s.heap ((m_qa_245 - n_pa) / 16) (2 * (m_qa_245 - n_pa)) [(r1, 10, 4, .int name_226), (r0, 13, 6, .ref printer_223), (r1, 10, 3, .int isStatement_164), (kernel_138, 7, 2, .ref start_141), (r0, 13, 5, .ref kernel_138), (r1, 10, 2, .int needed_135), (r1, 10, 1, .ref about_4), (r0, 13, 4, .ref bo), (r0, 13, 3, .ref ou)] [] [(jFy, jYb dC dI G_245), (jFs11, jSef dC dI G_245)] H_265 locs_265 := (((hh_271.call hb_2651 hb_2652 hb_2653 hb_2654 hS_265 rfl (L1 := [(r1, 10, 4, .int name_226), (r0, 13, 6, .ref printer_223), (r1, 10, 3, .int isStatement_164), (kernel_138, 7, 2, .ref start_141), (r0, 13, 5, .ref kernel_138), (r1, 10, 2, .int needed_135), (r1, 10, 1, .ref about_4), (r0, 13, 4, .ref bo), (r0, 13, 3, .ref ou)]) [4, 5, 6, 7, 8, 9, 10, 11, 12] rfl rfl (M1 := []) [] rfl rfl (I1 := [(jFs11, jSef dC dI G_245)]) [2] rfl rfl).more hb_2655)).addIs hbE_265
      have hh_273 := hh_265.more (P1 := [(bo, 2, 1, .int qc_245), (bo, 2, 0, .ref qa_245)]) (jP.cons hg_255 (hbO_265 _ _ _ _ (jn1 (by first | assumption | exact Ne.symm (by assumption) | exact jnek hg_255 hg_256 (by decide))) hg_255 (hh_271.at 2 rfl)) (jP.cons hg_255 (hbO_265 _ _ _ _ (jn1 (by first | assumption | exact Ne.symm (by assumption) | exact jnek hg_255 hg_256 (by decide))) hg_255 (hh_271.at 3 rfl)) jP.nil))
      have hd_274 := jOl.trL (hh_271.iv 1 rfl) hh_271.2.2.2.2.1 hbO_265 (by simp)
      have hh_275 := hh_273.addI (jOl.ie (dC := dC) (dI := dI) (G0 := G0) (k := 2) (rs := [bo, ou]) (H0 := s.heap) (F := [(2, 0), (2, 1)]) (C := RX0) (T := TX0) (N := 2) rfl (by decide) hh_273.2.2.2.2.1 (hd_274))
      clear hh_273
      clear hh_271 ht_265 hvm_265 hz_265 hk_265 hS_265 hb_2651 hb_2652 hb_2653 hb_2654 hb_2655
      clear  hbE_265
      have hsz_276 := hh_275.2.2.2.2.2.1
      have htt_276 := hh_275.2.2.2.2.2.2.1
      refine W.room (fun hrc_276 hrs_276 => ?_)
      refine W.widen (k := LC - s.heap.size) (n := LS - jTot s.heap) (by omega) (by omega) ?_
      rw [hQ]
      exact W.vret hx hb hr (fun t ht hW => ⟨⟨(qc_245, qa_245, m_qa_245, G_245), rfl, by (try dsimp only); exact ⟨(by first | omega | rfl | assumption | fail), (by first | omega | rfl | assumption | fail), (by first | omega | rfl | assumption | fail), (by first | omega | rfl | assumption | fail), (by first | assumption | fail | omega)⟩, ⟨hh_275.ra (by first | omega | (simp only; omega)) (by first | omega | (simp only; omega)) (M1 := [(bo, 2, 1, .int qc_245), (bo, 2, 0, .ref qa_245)]) [0, 1] rfl ht, hgq_245_0, hNn_245, by rw [ht]; exact hh_275.iv 0 rfl, by rw [ht]; exact hh_275.2.2.2.2.2.2.2.2.sub (L1 := [(jFy, jYb dC dI G_245), (jFs11, jSef dC dI G_245)]) [1, 2] rfl⟩⟩, by rw [ht]; try exact hh_275.1.1, fun q h9 hq => by rw [ht]; try exact hh_275.1.2.1 q h9 hq⟩) hh_275.1.2.2 dX11_reply_95
end
