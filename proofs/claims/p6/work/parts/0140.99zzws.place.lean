section
def EX1_endsLineU : List (Nat × Nat) := []
def EX1_placeOfU : List (Nat × Nat) := []
set_option maxHeartbeats 4000000 in
set_option maxRecDepth 20000 in
theorem uX1_endsLineU (l : Launch) (dC : Nat → ClassId) (dI : Nat → Nat → Nat) (ca : Nat → ClassId) (base : Nat) (B : jF) (hB : jBok B) (hAp : jAp (dC, dI)) (hB3 : ∀ n G a H, B 3 n G a H ↔ jOb (dC, dI) 3 17 (F3 n G) a H) (hB173 : ∀ n G a H, B 173 n G a H ↔ jAr (dC, dI) (ca 1) (fun j z => True) n a H) (G0 : jT) (H0 : Heap) (r0 : Nat) (a1 : Int32) (n0 : Nat) (pl : Int32) (tx_ : Nat) (ft : Nat → Int32) : Met l yX1_endsLine (jw yX1_endsLine cX1_endsLine 3 (some .boolean)) ({ frames := 0, cells := 0, slots := 0, locals := 0 }) (va_Pc [.ref r0, .int a1] (fun U => U.heap = H0 ∧ jX B base G0 [] H0 ∧ jG dC dI ca base U ∧ G0 r0 = some (3, n0) ∧ G0 tx_ = some (173, 1500) ∧ jP (dC, dI) G0 H0 [(r0, 3, 3, .int pl), (r0, 3, 2, .ref tx_)] ∧ jMc (dC, dI) G0 H0 [(tx_, 173, 1500, ca 1, ft)] ∧ 0 ≤ a1.toInt ∧ a1.toInt < pl.toInt ∧ pl.toInt ≤ 1500)) (va_Qi (S := Unit) (fun r u => (r = 0 ∨ r = 1) ∧ (r.toInt = jdE (jSo ft) pl.toInt a1.toInt)) (fun u t => jRt (dC, dI) B base G0 EX1_endsLineU H0 [] t.heap) (jA base)) 0 0 (jA base) := by
  refine Met.ofW (cc := cX1_endsLine) (maxL := 3) (ret := (some .boolean)) (by decide) rfl ?_
  intro p e s m args below meth c s₁ Bd hml hv
  obtain ⟨rfl, hH0, hX, hG, hg_r0, hg_tx_, hP0, hM0, hp0, hp1, hp2⟩ := hv
  have hK := hG.1
  have hx := Bd.exec
  have hb := Bd.bytes
  have hr := Bd.returns
  have hts := atoms_spec (ws := (jw yX1_endsLine cX1_endsLine 3 (some .boolean))) Bd.pre
  have htw : ∀ w ∈ jWl, w.before _ s = true := fun w h => hts w (List.mem_cons_of_mem _ h)
  have hown : s.vm.findClass RX1 = some m.cls := findClass_of_methodNamed Bd.named
  have hlocks := Bd.notSynchronized
  obtain ⟨Q, hQ⟩ : ∃ Q, Q = MQ below (va_Qi (S := Unit) (fun r u => (r = 0 ∨ r = 1) ∧ (r.toInt = jdE (jSo ft) pl.toInt a1.toInt)) (fun u t => jRt (dC, dI) B base G0 EX1_endsLineU H0 [] t.heap) (jA base)) ([.ref r0, .int a1] : List Value).toArray s 0 0 (jA base) := ⟨_, rfl⟩
  rw [← hQ]
  have hl := lv_entry ([.ref r0, .int a1]) (n := 3) (Nat.le_of_ble_eq_true rfl)
  rw [lg_entry_eq]
  generalize (lg_sl ([.ref r0, .int a1]) ++ List.replicate (3 - (lg_sl ([.ref r0, .int a1])).length) Slot.unset).toArray = ls at hl ⊢
  have hl : lv_has ls 3 [(0, .ref r0), (1, .int a1)] := hl
  generalize hR : (headSpec (jw yX1_endsLine cX1_endsLine 3 (some .boolean)) ({ frames := 0, cells := 0, slots := 0, locals := 0 })).room = R
  subst hH0
  have hh : jSt (dC, dI) B base G0 G0 EX1_endsLineU s.heap 0 0 [(r0, 3, 3, .int pl), (r0, 3, 2, .ref tx_)] [(tx_, 173, 1500, ca 1, ft)] [] s.heap [] := jSt.start hX hP0 hM0 jIs.nil
  clear hX hP0
  have hk0 : (0 : Int32).toInt = 0 := by decide
  have hk1 : (1 : Int32).toInt = 1 := by decide
  have hk10 : (10 : Int32).toInt = 10 := by decide
  have hk13 : (13 : Int32).toInt = 13 := by decide
  have hly_3_2 := htw (u_lay RX1 TX1 2) (jWc_wsX10 _ (u_in_lay (by decide)))
  have hly_3_3 := htw (u_lay RX1 TX1 3) (jWc_wsX10 _ (u_in_lay (by decide)))
  have hlk_15 := (htw (.fieldLink RX1 15 "ProofServer$Document" "text" "[I") (jWr_10 _ (List.mem_of_getElem? (i := 6) rfl)))
  have hlk_42 := (htw (.fieldLink RX1 42 "ProofServer$Document" "length" "I") (jWr_29 _ (List.mem_of_getElem? (i := 5) rfl)))
  have hrg_a1 := jb_rng a1
  refine lv_aload_n hx hb dX1_endsLine_0 rfl (lv_at hl 0 rfl) ?_
  refine j7_read hx hb hown hK (C := RX1) (T := TX1) (N := 17) rfl hly_3_2 hlk_15 (hh.at 1 rfl) dX1_endsLine_1 ?_
  refine lv_iload_n hx hb dX1_endsLine_4 rfl (lv_at hl 1 rfl) ?_
  refine j7_ialdM hx hb hK hh hB173 1 rfl (by decide) hg_tx_ (x := a1.toInt) (rfl) (by omega) (j := 0) rfl dX1_endsLine_5 (fun z_1 ez_1 (hz_1 : True) => ?_)
  have hqz_1 : z_1.toInt = jSo ft (a1.toInt) := by unfold jSo; rw [ez_1]
  refine lv_bipush (v := 13) hx hb dX1_endsLine_6 (by decide) ?_
  refine lv_icmp_ne (tgt := 15) hx hb dX1_endsLine_8 (by decide) (fun c_2 => ?_) (fun c_2 => ?_)
  · skip
    have c_2' : z_1.toInt ≠ 13 := jb_ne (rfl) ((by decide)) c_2
    refine lv_iconst (v := 0) hx hb dX1_endsLine_15 (by decide) ?_
    refine lv_istore_n (lv' := [(2, .int 0), (0, .ref r0), (1, .int a1)]) hx hb dX1_endsLine_16 rfl hl (by decide) rfl (fun ls hl => ?_)
    refine lv_aload_n hx hb dX1_endsLine_17 rfl (lv_at hl 1 rfl) ?_
    refine j7_read hx hb hown hK (C := RX1) (T := TX1) (N := 17) rfl hly_3_2 hlk_15 (hh.at 1 rfl) dX1_endsLine_18 ?_
    refine lv_iload_n hx hb dX1_endsLine_21 rfl (lv_at hl 2 rfl) ?_
    refine j7_ialdM hx hb hK hh hB173 1 rfl (by decide) hg_tx_ (x := a1.toInt) (rfl) (by omega) (j := 0) rfl dX1_endsLine_22 (fun z_3 ez_3 (hz_3 : True) => ?_)
    have hqz_3 : z_3.toInt = jSo ft (a1.toInt) := by unfold jSo; rw [ez_3]
    refine lv_bipush (v := 10) hx hb dX1_endsLine_23 (by decide) ?_
    refine lv_icmp_eq (tgt := 55) hx hb dX1_endsLine_25 (by decide) (fun c_4 => ?_) (fun c_4 => ?_)
    · skip
      have c_4' : z_3.toInt = 10 := jb_eq (rfl) ((by decide)) c_4
      refine lv_iconst (v := 1) hx hb dX1_endsLine_55 (by decide) ?_
      refine lv_goto (tgt := 60) hx hb dX1_endsLine_56 (by decide) ?_
      rw [hQ]
      exact W.zret (v := 1) hx hb hr (jb_nz (Or.inr rfl)) (fun t ht hW => ⟨⟨1, (), rfl, ⟨(Or.inr rfl), by unfold jdE; rw [if_pos (Or.inl (by have h9 := hqz_3; omega))]; exact hk1⟩, hh.rt (M1 := []) [] rfl ht⟩, by rw [ht]; try exact hh.1.1, fun q h9 hq => by rw [ht]; try exact hh.1.2.1 q h9 hq⟩) hh.1.2.2 dX1_endsLine_60
    · skip
      have c_4' : z_3.toInt ≠ 10 := jb_eq_n (rfl) ((by decide)) c_4
      refine lv_iload_n hx hb dX1_endsLine_28 rfl (lv_at hl 0 rfl) ?_
      refine lv_if_eq (tgt := 59) hx hb dX1_endsLine_29 (by decide) (fun c_5 => ?_) (fun c_5 => ?_)
      · skip
        refine lv_iconst (v := 0) hx hb dX1_endsLine_59 (by decide) ?_
        rw [hQ]
        exact W.zret (v := 0) hx hb hr (jb_nz (Or.inl rfl)) (fun t ht hW => ⟨⟨0, (), rfl, ⟨(Or.inl rfl), by unfold jdE; rw [if_neg (fun q => by rcases q with q | q; (have h9 := hqz_3; omega); have h9 := hqz_1; have h8 := q.1; omega)]; exact hk0⟩, hh.rt (M1 := []) [] rfl ht⟩, by rw [ht]; try exact hh.1.1, fun q h9 hq => by rw [ht]; try exact hh.1.2.1 q h9 hq⟩) hh.1.2.2 dX1_endsLine_60
      · skip
        exact absurd c_5 (by decide)
  · skip
    have c_2' : z_1.toInt = 13 := jb_ne_n (rfl) ((by decide)) c_2
    refine lv_iconst (v := 1) hx hb dX1_endsLine_11 (by decide) ?_
    refine lv_goto (tgt := 16) hx hb dX1_endsLine_12 (by decide) ?_
    refine lv_istore_n (lv' := [(2, .int 1), (0, .ref r0), (1, .int a1)]) hx hb dX1_endsLine_16 rfl hl (by decide) rfl (fun ls hl => ?_)
    refine lv_aload_n hx hb dX1_endsLine_17 rfl (lv_at hl 1 rfl) ?_
    refine j7_read hx hb hown hK (C := RX1) (T := TX1) (N := 17) rfl hly_3_2 hlk_15 (hh.at 1 rfl) dX1_endsLine_18 ?_
    refine lv_iload_n hx hb dX1_endsLine_21 rfl (lv_at hl 2 rfl) ?_
    refine j7_ialdM hx hb hK hh hB173 1 rfl (by decide) hg_tx_ (x := a1.toInt) (rfl) (by omega) (j := 0) rfl dX1_endsLine_22 (fun z_6 ez_6 (hz_6 : True) => ?_)
    have hqz_6 : z_6.toInt = jSo ft (a1.toInt) := by unfold jSo; rw [ez_6]
    refine lv_bipush (v := 10) hx hb dX1_endsLine_23 (by decide) ?_
    refine lv_icmp_eq (tgt := 55) hx hb dX1_endsLine_25 (by decide) (fun c_7 => ?_) (fun c_7 => ?_)
    · skip
      have c_7' : z_6.toInt = 10 := jb_eq (rfl) ((by decide)) c_7
      refine lv_iconst (v := 1) hx hb dX1_endsLine_55 (by decide) ?_
      refine lv_goto (tgt := 60) hx hb dX1_endsLine_56 (by decide) ?_
      rw [hQ]
      exact W.zret (v := 1) hx hb hr (jb_nz (Or.inr rfl)) (fun t ht hW => ⟨⟨1, (), rfl, ⟨(Or.inr rfl), by unfold jdE; rw [if_pos (Or.inl (by have h9 := hqz_6; omega))]; exact hk1⟩, hh.rt (M1 := []) [] rfl ht⟩, by rw [ht]; try exact hh.1.1, fun q h9 hq => by rw [ht]; try exact hh.1.2.1 q h9 hq⟩) hh.1.2.2 dX1_endsLine_60
    · skip
      have c_7' : z_6.toInt ≠ 10 := jb_eq_n (rfl) ((by decide)) c_7
      refine lv_iload_n hx hb dX1_endsLine_28 rfl (lv_at hl 0 rfl) ?_
      refine lv_if_eq (tgt := 59) hx hb dX1_endsLine_29 (by decide) (fun c_8 => ?_) (fun c_8 => ?_)
      · skip
        exact absurd c_8 (by decide)
      · skip
        refine lv_iload_n hx hb dX1_endsLine_32 rfl (lv_at hl 2 rfl) ?_
        refine lv_iconst (v := 1) hx hb dX1_endsLine_33 (by decide) ?_
        refine lv_iadd hx hb dX1_endsLine_34 ?_
        refine lv_topi (fun z_9 ez_9 => ?_)
        have hz_9 : z_9.toInt = a1.toInt + 1 := by rw [ez_9]; exact jb_iadd2 (rfl) ((by decide)) (by omega)
        refine lv_aload_n hx hb dX1_endsLine_35 rfl (lv_at hl 1 rfl) ?_
        refine j7_read hx hb hown hK (C := RX1) (T := TX1) (N := 17) rfl hly_3_3 hlk_42 (hh.at 0 rfl) dX1_endsLine_36 ?_
        refine lv_icmp_ge (tgt := 55) hx hb dX1_endsLine_39 (by decide) (fun c_10 => ?_) (fun c_10 => ?_)
        · skip
          have c_10' : z_9.toInt ≥ pl.toInt := jb_ge (rfl) (rfl) c_10
          refine lv_iconst (v := 1) hx hb dX1_endsLine_55 (by decide) ?_
          refine lv_goto (tgt := 60) hx hb dX1_endsLine_56 (by decide) ?_
          rw [hQ]
          exact W.zret (v := 1) hx hb hr (jb_nz (Or.inr rfl)) (fun t ht hW => ⟨⟨1, (), rfl, ⟨(Or.inr rfl), by unfold jdE; rw [if_pos (Or.inr ⟨by have h9 := hqz_1; omega, fun q => by omega⟩)]; exact hk1⟩, hh.rt (M1 := []) [] rfl ht⟩, by rw [ht]; try exact hh.1.1, fun q h9 hq => by rw [ht]; try exact hh.1.2.1 q h9 hq⟩) hh.1.2.2 dX1_endsLine_60
        · skip
          have c_10' : z_9.toInt < pl.toInt := jb_ge_n (rfl) (rfl) c_10
          refine lv_aload_n hx hb dX1_endsLine_42 rfl (lv_at hl 1 rfl) ?_
          refine j7_read hx hb hown hK (C := RX1) (T := TX1) (N := 17) rfl hly_3_2 hlk_15 (hh.at 1 rfl) dX1_endsLine_43 ?_
          refine lv_iload_n hx hb dX1_endsLine_46 rfl (lv_at hl 2 rfl) ?_
          refine lv_iconst (v := 1) hx hb dX1_endsLine_47 (by decide) ?_
          refine lv_iadd hx hb dX1_endsLine_48 ?_
          refine lv_topi (fun z_11 ez_11 => ?_)
          have hz_11 : z_11.toInt = a1.toInt + 1 := by rw [ez_11]; exact jb_iadd2 (rfl) ((by decide)) (by omega)
          refine j7_ialdM hx hb hK hh hB173 1 rfl (by decide) hg_tx_ (x := z_11.toInt) (rfl) (by omega) (j := 0) rfl dX1_endsLine_49 (fun z_12 ez_12 (hz_12 : True) => ?_)
          have hqz_12 : z_12.toInt = jSo ft ((a1.toInt + 1)) := by unfold jSo; rw [ez_12, show z_11.toInt = (a1.toInt + 1) by omega]
          refine lv_bipush (v := 10) hx hb dX1_endsLine_50 (by decide) ?_
          refine lv_icmp_eq (tgt := 59) hx hb dX1_endsLine_52 (by decide) (fun c_13 => ?_) (fun c_13 => ?_)
          · skip
            have c_13' : z_12.toInt = 10 := jb_eq (rfl) ((by decide)) c_13
            refine lv_iconst (v := 0) hx hb dX1_endsLine_59 (by decide) ?_
            rw [hQ]
            exact W.zret (v := 0) hx hb hr (jb_nz (Or.inl rfl)) (fun t ht hW => ⟨⟨0, (), rfl, ⟨(Or.inl rfl), by unfold jdE; rw [if_neg (fun q => by rcases q with q | q; (have h9 := hqz_6; omega); exact q.2 ⟨by omega, by have h9 := hqz_12; omega⟩)]; exact hk0⟩, hh.rt (M1 := []) [] rfl ht⟩, by rw [ht]; try exact hh.1.1, fun q h9 hq => by rw [ht]; try exact hh.1.2.1 q h9 hq⟩) hh.1.2.2 dX1_endsLine_60
          · skip
            have c_13' : z_12.toInt ≠ 10 := jb_eq_n (rfl) ((by decide)) c_13
            refine lv_iconst (v := 1) hx hb dX1_endsLine_55 (by decide) ?_
            refine lv_goto (tgt := 60) hx hb dX1_endsLine_56 (by decide) ?_
            rw [hQ]
            exact W.zret (v := 1) hx hb hr (jb_nz (Or.inr rfl)) (fun t ht hW => ⟨⟨1, (), rfl, ⟨(Or.inr rfl), by unfold jdE; rw [if_pos (Or.inr ⟨by have h9 := hqz_1; omega, fun q => by have h9 := hqz_12; omega⟩)]; exact hk1⟩, hh.rt (M1 := []) [] rfl ht⟩, by rw [ht]; try exact hh.1.1, fun q h9 hq => by rw [ht]; try exact hh.1.2.1 q h9 hq⟩) hh.1.2.2 dX1_endsLine_60
set_option maxHeartbeats 4000000 in
set_option maxRecDepth 20000 in
theorem uX1_placeOfU (l : Launch) (dC : Nat → ClassId) (dI : Nat → Nat → Nat) (ca : Nat → ClassId) (base : Nat) (B : jF) (hB : jBok B) (hAp : jAp (dC, dI)) (hB3 : ∀ n G a H, B 3 n G a H ↔ jOb (dC, dI) 3 17 (F3 n G) a H) (hB173 : ∀ n G a H, B 173 n G a H ↔ jAr (dC, dI) (ca 1) (fun j z => True) n a H) (G0 : jT) (H0 : Heap) (r0 : Nat) (a1 : Int32) (a2 : Int32) (n0 : Nat) (pl : Int32) (tx_ : Nat) (ft : Nat → Int32) : Met l yX1_placeOf (jw yX1_placeOf cX1_placeOf 6 (some .int)) ({ frames := 1, cells := 0, slots := 0, locals := 22 }) (va_Pc [.ref r0, .int a1, .int a2] (fun U => U.heap = H0 ∧ jX B base G0 [] H0 ∧ jG dC dI ca base U ∧ G0 r0 = some (3, n0) ∧ G0 tx_ = some (173, 1500) ∧ jP (dC, dI) G0 H0 [(r0, 3, 3, .int pl), (r0, 3, 2, .ref tx_)] ∧ jMc (dC, dI) G0 H0 [(tx_, 173, 1500, ca 1, ft)] ∧ 0 ≤ pl.toInt ∧ pl.toInt ≤ 1500)) (va_Qi (S := Unit) (fun r u => (-1 ≤ r.toInt ∧ r.toInt ≤ 1500 ∧ r.toInt = jdP (jSo ft) pl.toInt a1.toInt a2.toInt)) (fun u t => jRt (dC, dI) B base G0 EX1_placeOfU H0 [] t.heap) (jA base)) 0 0 (jA base) := by
  refine Met.ofW (cc := cX1_placeOf) (maxL := 6) (ret := (some .int)) (by decide) rfl ?_
  intro p e s m args below meth c s₁ Bd hml hv
  obtain ⟨rfl, hH0, hX, hG, hg_r0, hg_tx_, hP0, hM0, hp0, hp1⟩ := hv
  have hK := hG.1
  have hx := Bd.exec
  have hb := Bd.bytes
  have hr := Bd.returns
  have hts := atoms_spec (ws := (jw yX1_placeOf cX1_placeOf 6 (some .int))) Bd.pre
  have htw : ∀ w ∈ jWl, w.before _ s = true := fun w h => hts w (List.mem_cons_of_mem _ h)
  have hown : s.vm.findClass RX1 = some m.cls := findClass_of_methodNamed Bd.named
  have hlocks := Bd.notSynchronized
  obtain ⟨Q, hQ⟩ : ∃ Q, Q = MQ below (va_Qi (S := Unit) (fun r u => (-1 ≤ r.toInt ∧ r.toInt ≤ 1500 ∧ r.toInt = jdP (jSo ft) pl.toInt a1.toInt a2.toInt)) (fun u t => jRt (dC, dI) B base G0 EX1_placeOfU H0 [] t.heap) (jA base)) ([.ref r0, .int a1, .int a2] : List Value).toArray s 0 0 (jA base) := ⟨_, rfl⟩
  rw [← hQ]
  have hl := lv_entry ([.ref r0, .int a1, .int a2]) (n := 6) (Nat.le_of_ble_eq_true rfl)
  rw [lg_entry_eq]
  generalize (lg_sl ([.ref r0, .int a1, .int a2]) ++ List.replicate (6 - (lg_sl ([.ref r0, .int a1, .int a2])).length) Slot.unset).toArray = ls at hl ⊢
  have hl : lv_has ls 6 [(0, .ref r0), (1, .int a1), (2, .int a2)] := hl
  generalize hR : (headSpec (jw yX1_placeOf cX1_placeOf 6 (some .int)) ({ frames := 1, cells := 0, slots := 0, locals := 22 })).room = R
  subst hH0
  have hh : jSt (dC, dI) B base G0 G0 EX1_placeOfU s.heap 0 0 [(r0, 3, 3, .int pl), (r0, 3, 2, .ref tx_)] [(tx_, 173, 1500, ca 1, ft)] [] s.heap [] := jSt.start hX hP0 hM0 jIs.nil
  clear hX hP0
  have hkm1 : ((-1) : Int32).toInt = (-1) := by decide
  have hk0 : (0 : Int32).toInt = 0 := by decide
  have hk1 : (1 : Int32).toInt = 1 := by decide
  have hk10 : (10 : Int32).toInt = 10 := by decide
  have hk13 : (13 : Int32).toInt = 13 := by decide
  have hly_3_2 := htw (u_lay RX1 TX1 2) (jWc_wsX10 _ (u_in_lay (by decide)))
  have hly_3_3 := htw (u_lay RX1 TX1 3) (jWc_wsX10 _ (u_in_lay (by decide)))
  have hlk_42 := (htw (.fieldLink RX1 42 "ProofServer$Document" "length" "I") (jWr_29 _ (List.mem_of_getElem? (i := 5) rfl)))
  have hlk_15 := (htw (.fieldLink RX1 15 "ProofServer$Document" "text" "[I") (jWr_10 _ (List.mem_of_getElem? (i := 6) rfl)))
  have hrg_a1 := jb_rng a1
  have hrg_a2 := jb_rng a2
  refine lv_iload_n hx hb dX1_placeOf_0 rfl (lv_at hl 1 rfl) ?_
  refine lv_if_lt (tgt := 8) hx hb dX1_placeOf_1 (by decide) (fun c_1 => ?_) (fun c_1 => ?_)
  · skip
    have c_1' : a1.toInt < 0 := jb_lt (rfl) ((by decide)) c_1
    refine lv_iconst (v := (-1)) hx hb dX1_placeOf_8 (by decide) ?_
    rw [hQ]
    exact W.iret (v := (-1)) hx hb hr (fun t ht hW => ⟨⟨(-1), (), rfl, by refine ⟨by omega, by omega, ?_⟩; unfold jdP; rw [if_pos (by omega)]; exact hkm1, hh.rt (M1 := []) [] rfl ht⟩, by rw [ht]; try exact hh.1.1, fun q h9 hq => by rw [ht]; try exact hh.1.2.1 q h9 hq⟩) hh.1.2.2 dX1_placeOf_9
  · skip
    have c_1' : a1.toInt ≥ 0 := jb_lt_n (rfl) ((by decide)) c_1
    refine lv_iload_n hx hb dX1_placeOf_4 rfl (lv_at hl 2 rfl) ?_
    refine lv_if_ge (tgt := 10) hx hb dX1_placeOf_5 (by decide) (fun c_2 => ?_) (fun c_2 => ?_)
    · skip
      have c_2' : a2.toInt ≥ 0 := jb_ge (rfl) ((by decide)) c_2
      refine lv_iconst (v := 0) hx hb dX1_placeOf_10 (by decide) ?_
      refine lv_istore_n (lv' := [(3, .int 0), (0, .ref r0), (1, .int a1), (2, .int a2)]) hx hb dX1_placeOf_11 rfl hl (by decide) rfl (fun ls hl => ?_)
      refine lv_iconst (v := 0) hx hb dX1_placeOf_12 (by decide) ?_
      refine lv_istore (lv' := [(4, .int 0), (3, .int 0), (0, .ref r0), (1, .int a1), (2, .int a2)]) hx hb dX1_placeOf_13 hl (by decide) rfl (fun ls hl => ?_)
      have L15 : ∀ (N : Nat) (v3_3 : Int32) (v4_3 : Int32) (kf : Nat) (H_3 : Heap) (locs_3 : List Loc), jSt (dC, dI) B base G0 G0 EX1_placeOfU s.heap 0 0 [(r0, 3, 3, .int pl), (r0, 3, 2, .ref tx_)] [(tx_, 173, 1500, ca 1, ft)] [] H_3 locs_3 → (0 ≤ v3_3.toInt ∧ v3_3.toInt ≤ pl.toInt ∧ 0 ≤ v4_3.toInt ∧ v4_3.toInt ≤ v3_3.toInt ∧ pl.toInt - v3_3.toInt ≤ kf ∧ jdL (jSo ft) pl.toInt a1.toInt kf v3_3.toInt v4_3.toInt = jdL (jSo ft) pl.toInt a1.toInt (pl.toInt).toNat 0 0) → (pl.toInt - v3_3.toInt : Int) < N → ∀ ls : Array Slot, lv_has ls 6 [(0, .ref r0), (1, .int a1), (2, .int a2), (3, .int v3_3), (4, .int v4_3)] → W p l e R s m ([.ref r0, .int a1, .int a2] : List Value).toArray below meth c H_3 locs_3 0 0 Q (F0 m 15 ls []) := by
        intro N
        induction N with
        | zero => intro v3_3 v4_3 kf H_3 locs_3 hh_3  hi_3 hm; exact absurd hm (by omega)
        | succ N L15 =>
          intro v3_3 v4_3 kf H_3 locs_3 hh_3  hi_3 hm_3 ls hl
          obtain ⟨hi_3_0, hi_3_1, hi_3_2, hi_3_3, hi_3_4, hi_3_5⟩ := hi_3
          refine lv_iload_n hx hb dX1_placeOf_15 rfl (lv_at hl 3 rfl) ?_
          refine lv_aload_n hx hb dX1_placeOf_16 rfl (lv_at hl 0 rfl) ?_
          refine j7_read hx hb hown hK (C := RX1) (T := TX1) (N := 17) rfl hly_3_3 hlk_42 (hh_3.at 0 rfl) dX1_placeOf_17 ?_
          have C46 : ∀ (v3_4 : Int32) (v4_4 : Int32) (H_4 : Heap) (locs_4 : List Loc), jSt (dC, dI) B base G0 G0 EX1_placeOfU s.heap 0 0 [(r0, 3, 3, .int pl), (r0, 3, 2, .ref tx_)] [(tx_, 173, 1500, ca 1, ft)] [] H_4 locs_4 → (0 ≤ v3_4.toInt ∧ v3_4.toInt ≤ pl.toInt ∧ 0 ≤ v4_4.toInt ∧ jdL (jSo ft) pl.toInt a1.toInt (pl.toInt).toNat 0 0 = (v3_4.toInt, v4_4.toInt)) → ∀ ls : Array Slot, lv_has ls 6 [(0, .ref r0), (1, .int a1), (2, .int a2), (3, .int v3_4), (4, .int v4_4)] → W p l e R s m ([.ref r0, .int a1, .int a2] : List Value).toArray below meth c H_4 locs_4 0 0 Q (F0 m 46 ls []) := by
            intro v3_4 v4_4 H_4 locs_4 hh_4  hi_4 ls hl
            obtain ⟨hi_4_0, hi_4_1, hi_4_2, hi_4_3⟩ := hi_4
            refine lv_iload hx hb dX1_placeOf_46 (lv_at hl 4 rfl) ?_
            refine lv_iload_n hx hb dX1_placeOf_48 rfl (lv_at hl 1 rfl) ?_
            refine lv_icmp_ge (tgt := 54) hx hb dX1_placeOf_49 (by decide) (fun c_5 => ?_) (fun c_5 => ?_)
            · skip
              have c_5' : v4_4.toInt ≥ a1.toInt := jb_ge (rfl) (rfl) c_5
              refine lv_iload_n hx hb dX1_placeOf_54 rfl (lv_at hl 3 rfl) ?_
              refine lv_istore (lv' := [(5, .int v3_4), (0, .ref r0), (1, .int a1), (2, .int a2), (3, .int v3_4), (4, .int v4_4)]) hx hb dX1_placeOf_55 hl (by decide) rfl (fun ls hl => ?_)
              have L57 : ∀ (N : Nat) (v3_6 : Int32) (kg : Nat) (H_6 : Heap) (locs_6 : List Loc), jSt (dC, dI) B base G0 G0 EX1_placeOfU s.heap 0 0 [(r0, 3, 3, .int pl), (r0, 3, 2, .ref tx_)] [(tx_, 173, 1500, ca 1, ft)] [] H_6 locs_6 → (v3_4.toInt ≤ v3_6.toInt ∧ v3_6.toInt ≤ pl.toInt ∧ pl.toInt - v3_6.toInt ≤ kg ∧ jdC (jSo ft) pl.toInt v3_4.toInt a2.toInt kg v3_6.toInt = jdC (jSo ft) pl.toInt v3_4.toInt a2.toInt (pl.toInt).toNat v3_4.toInt) → (pl.toInt - v3_6.toInt : Int) < N → ∀ ls : Array Slot, lv_has ls 6 [(0, .ref r0), (1, .int a1), (2, .int a2), (3, .int v3_6), (4, .int v4_4), (5, .int v3_4)] → W p l e R s m ([.ref r0, .int a1, .int a2] : List Value).toArray below meth c H_6 locs_6 0 0 Q (F0 m 57 ls []) := by
                intro N
                induction N with
                | zero => intro v3_6 kg H_6 locs_6 hh_6  hi_6 hm; exact absurd hm (by omega)
                | succ N L57 =>
                  intro v3_6 kg H_6 locs_6 hh_6  hi_6 hm_6 ls hl
                  obtain ⟨hi_6_0, hi_6_1, hi_6_2, hi_6_3⟩ := hi_6
                  refine lv_iload_n hx hb dX1_placeOf_57 rfl (lv_at hl 3 rfl) ?_
                  refine lv_aload_n hx hb dX1_placeOf_58 rfl (lv_at hl 0 rfl) ?_
                  refine j7_read hx hb hown hK (C := RX1) (T := TX1) (N := 17) rfl hly_3_3 hlk_42 (hh_6.at 0 rfl) dX1_placeOf_59 ?_
                  refine lv_icmp_ge (tgt := 101) hx hb dX1_placeOf_62 (by decide) (fun c_7 => ?_) (fun c_7 => ?_)
                  · skip
                    have c_7' : v3_6.toInt ≥ pl.toInt := jb_ge (rfl) (rfl) c_7
                    refine lv_iload_n hx hb dX1_placeOf_101 rfl (lv_at hl 3 rfl) ?_
                    rw [hQ]
                    exact W.iret (v := v3_6) hx hb hr (fun t ht hW => ⟨⟨v3_6, (), rfl, by refine ⟨by omega, by omega, ?_⟩; unfold jdP; rw [if_neg (by omega), hi_4_3, if_neg (by dsimp only; omega)]; exact (jdC_e (Or.inl (by omega))).symm.trans hi_6_3, hh_6.rt (M1 := []) [] rfl ht⟩, by rw [ht]; try exact hh_6.1.1, fun q h9 hq => by rw [ht]; try exact hh_6.1.2.1 q h9 hq⟩) hh_6.1.2.2 dX1_placeOf_102
                  · skip
                    have c_7' : v3_6.toInt < pl.toInt := jb_ge_n (rfl) (rfl) c_7
                    refine lv_iload_n hx hb dX1_placeOf_65 rfl (lv_at hl 3 rfl) ?_
                    refine lv_iload hx hb dX1_placeOf_66 (lv_at hl 5 rfl) ?_
                    refine lv_isub hx hb dX1_placeOf_68 ?_
                    refine lv_topi (fun z_8 ez_8 => ?_)
                    have hz_8 : z_8.toInt = v3_6.toInt - v3_4.toInt := by rw [ez_8]; exact jb_isub2 (rfl) (rfl) (by omega)
                    refine lv_iload_n hx hb dX1_placeOf_69 rfl (lv_at hl 2 rfl) ?_
                    refine lv_icmp_ge (tgt := 101) hx hb dX1_placeOf_70 (by decide) (fun c_9 => ?_) (fun c_9 => ?_)
                    · skip
                      have c_9' : z_8.toInt ≥ a2.toInt := jb_ge (rfl) (rfl) c_9
                      refine lv_iload_n hx hb dX1_placeOf_101 rfl (lv_at hl 3 rfl) ?_
                      rw [hQ]
                      exact W.iret (v := v3_6) hx hb hr (fun t ht hW => ⟨⟨v3_6, (), rfl, by refine ⟨by omega, by omega, ?_⟩; unfold jdP; rw [if_neg (by omega), hi_4_3, if_neg (by dsimp only; omega)]; exact (jdC_e (Or.inr (Or.inl (by omega)))).symm.trans hi_6_3, hh_6.rt (M1 := []) [] rfl ht⟩, by rw [ht]; try exact hh_6.1.1, fun q h9 hq => by rw [ht]; try exact hh_6.1.2.1 q h9 hq⟩) hh_6.1.2.2 dX1_placeOf_102
                    · skip
                      have c_9' : z_8.toInt < a2.toInt := jb_ge_n (rfl) (rfl) c_9
                      refine lv_aload_n hx hb dX1_placeOf_73 rfl (lv_at hl 0 rfl) ?_
                      refine j7_read hx hb hown hK (C := RX1) (T := TX1) (N := 17) rfl hly_3_2 hlk_15 (hh_6.at 1 rfl) dX1_placeOf_74 ?_
                      refine lv_iload_n hx hb dX1_placeOf_77 rfl (lv_at hl 3 rfl) ?_
                      refine j7_ialdM hx hb hK hh_6 hB173 1 rfl (by decide) hg_tx_ (x := v3_6.toInt) (rfl) (by omega) (j := 0) rfl dX1_placeOf_78 (fun z_10 ez_10 (hz_10 : True) => ?_)
                      have hqz_10 : z_10.toInt = jSo ft (v3_6.toInt) := by unfold jSo; rw [ez_10]
                      refine lv_bipush (v := 10) hx hb dX1_placeOf_79 (by decide) ?_
                      refine lv_icmp_eq (tgt := 101) hx hb dX1_placeOf_81 (by decide) (fun c_11 => ?_) (fun c_11 => ?_)
                      · skip
                        have c_11' : z_10.toInt = 10 := jb_eq (rfl) ((by decide)) c_11
                        refine lv_iload_n hx hb dX1_placeOf_101 rfl (lv_at hl 3 rfl) ?_
                        rw [hQ]
                        exact W.iret (v := v3_6) hx hb hr (fun t ht hW => ⟨⟨v3_6, (), rfl, by refine ⟨by omega, by omega, ?_⟩; unfold jdP; rw [if_neg (by omega), hi_4_3, if_neg (by dsimp only; omega)]; exact (jdC_e (Or.inr (Or.inr (Or.inl (by have h9 := hqz_10; omega))))).symm.trans hi_6_3, hh_6.rt (M1 := []) [] rfl ht⟩, by rw [ht]; try exact hh_6.1.1, fun q h9 hq => by rw [ht]; try exact hh_6.1.2.1 q h9 hq⟩) hh_6.1.2.2 dX1_placeOf_102
                      · skip
                        have c_11' : z_10.toInt ≠ 10 := jb_eq_n (rfl) ((by decide)) c_11
                        refine lv_aload_n hx hb dX1_placeOf_84 rfl (lv_at hl 0 rfl) ?_
                        refine j7_read hx hb hown hK (C := RX1) (T := TX1) (N := 17) rfl hly_3_2 hlk_15 (hh_6.at 1 rfl) dX1_placeOf_85 ?_
                        refine lv_iload_n hx hb dX1_placeOf_88 rfl (lv_at hl 3 rfl) ?_
                        refine j7_ialdM hx hb hK hh_6 hB173 1 rfl (by decide) hg_tx_ (x := v3_6.toInt) (rfl) (by omega) (j := 0) rfl dX1_placeOf_89 (fun z_12 ez_12 (hz_12 : True) => ?_)
                        have hqz_12 : z_12.toInt = jSo ft (v3_6.toInt) := by unfold jSo; rw [ez_12]
                        refine lv_bipush (v := 13) hx hb dX1_placeOf_90 (by decide) ?_
                        refine lv_icmp_eq (tgt := 101) hx hb dX1_placeOf_92 (by decide) (fun c_13 => ?_) (fun c_13 => ?_)
                        · skip
                          have c_13' : z_12.toInt = 13 := jb_eq (rfl) ((by decide)) c_13
                          refine lv_iload_n hx hb dX1_placeOf_101 rfl (lv_at hl 3 rfl) ?_
                          rw [hQ]
                          exact W.iret (v := v3_6) hx hb hr (fun t ht hW => ⟨⟨v3_6, (), rfl, by refine ⟨by omega, by omega, ?_⟩; unfold jdP; rw [if_neg (by omega), hi_4_3, if_neg (by dsimp only; omega)]; exact (jdC_e (Or.inr (Or.inr (Or.inr (by have h9 := hqz_12; omega))))).symm.trans hi_6_3, hh_6.rt (M1 := []) [] rfl ht⟩, by rw [ht]; try exact hh_6.1.1, fun q h9 hq => by rw [ht]; try exact hh_6.1.2.1 q h9 hq⟩) hh_6.1.2.2 dX1_placeOf_102
                        · skip
                          have c_13' : z_12.toInt ≠ 13 := jb_eq_n (rfl) ((by decide)) c_13
                          obtain ⟨z_14, ez_14⟩ : ∃ y : Int32, y = v3_6 + 1 := ⟨_, rfl⟩
                          refine lv_iinc (v := z_14) (lv' := [(3, .int z_14), (0, .ref r0), (1, .int a1), (2, .int a2), (4, .int v4_4), (5, .int v3_4)]) hx hb dX1_placeOf_95 hl (k := 3) rfl (by rw [ez_14]; rfl) (by decide) rfl (fun ls hl => ?_)
                          have hz_14 : z_14.toInt = v3_6.toInt + 1 := by rw [ez_14]; exact jb_iadd2 (rfl) (by decide) (by omega)
                          refine lv_goto (tgt := 57) hx hb dX1_placeOf_98 (by decide) ?_
                          exact L57 z_14 (kg - 1) _ _ hh_6 (by refine ⟨by omega, by omega, by omega, ?_⟩; exact (jdC_s (by omega) (by omega) (by have h9 := hqz_10; omega) (by have h9 := hqz_12; omega) (by omega) (by omega)).trans hi_6_3) (by omega) _ (lv_sub hl [1, 2, 3, 0, 4, 5] rfl)
              exact L57 (pl.toInt - (v3_4 : Int32).toInt : Int).toNat.succ v3_4 ((pl.toInt).toNat) _ _ hh_4 (by refine ⟨by omega, by omega, by omega, rfl⟩) (by omega) _ (lv_sub hl [1, 2, 3, 4, 5, 0] rfl)
            · skip
              have c_5' : v4_4.toInt < a1.toInt := jb_ge_n (rfl) (rfl) c_5
              refine lv_iconst (v := (-1)) hx hb dX1_placeOf_52 (by decide) ?_
              rw [hQ]
              exact W.iret (v := (-1)) hx hb hr (fun t ht hW => ⟨⟨(-1), (), rfl, by refine ⟨by omega, by omega, ?_⟩; unfold jdP; rw [if_neg (by omega), hi_4_3, if_pos (by dsimp only; omega)]; exact hkm1, hh_4.rt (M1 := []) [] rfl ht⟩, by rw [ht]; try exact hh_4.1.1, fun q h9 hq => by rw [ht]; try exact hh_4.1.2.1 q h9 hq⟩) hh_4.1.2.2 dX1_placeOf_53
          refine lv_icmp_ge (tgt := 46) hx hb dX1_placeOf_20 (by decide) (fun c_15 => ?_) (fun c_15 => ?_)
          · skip
            have c_15' : v3_3.toInt ≥ pl.toInt := jb_ge (rfl) (rfl) c_15
            exact C46 v3_3 v4_3 _ _ hh_3 (⟨(by first | omega | rfl | assumption | exact hi_3_5.symm.trans (jdL_e (by omega))), (by first | omega | rfl | assumption | exact hi_3_5.symm.trans (jdL_e (by omega))), (by first | omega | rfl | assumption | exact hi_3_5.symm.trans (jdL_e (by omega))), (by first | assumption | exact hi_3_5.symm.trans (jdL_e (by omega)) | omega)⟩) _ (lv_sub hl [0, 1, 2, 3, 4] rfl)
          · skip
            have c_15' : v3_3.toInt < pl.toInt := jb_ge_n (rfl) (rfl) c_15
            refine lv_iload hx hb dX1_placeOf_23 (lv_at hl 4 rfl) ?_
            refine lv_iload_n hx hb dX1_placeOf_25 rfl (lv_at hl 1 rfl) ?_
            refine lv_icmp_ge (tgt := 46) hx hb dX1_placeOf_26 (by decide) (fun c_16 => ?_) (fun c_16 => ?_)
            · skip
              have c_16' : v4_3.toInt ≥ a1.toInt := jb_ge (rfl) (rfl) c_16
              exact C46 v3_3 v4_3 _ _ hh_3 (⟨(by first | omega | rfl | assumption | exact hi_3_5.symm.trans (jdL_e (by omega))), (by first | omega | rfl | assumption | exact hi_3_5.symm.trans (jdL_e (by omega))), (by first | omega | rfl | assumption | exact hi_3_5.symm.trans (jdL_e (by omega))), (by first | assumption | exact hi_3_5.symm.trans (jdL_e (by omega)) | omega)⟩) _ (lv_sub hl [0, 1, 2, 3, 4] rfl)
            · skip
              have c_16' : v4_3.toInt < a1.toInt := jb_ge_n (rfl) (rfl) c_16
              refine lv_aload_n hx hb dX1_placeOf_29 rfl (lv_at hl 0 rfl) ?_
              refine lv_iload_n hx hb dX1_placeOf_30 rfl (lv_at hl 3 rfl) ?_
              refine va_calli (A0 := jA base) (H0 := s.heap) (va_runV (As := [.int v3_3]) (rest := []) ⟨hx, hb, hml, hown, hts⟩ (uX1_endsLineU l dC dI ca base B hB hAp hB3 hB173 G0 H_3 r0 v3_3 n0 pl tx_ ft) (cwV 1 hts (jgV (jWr_29 _ (List.mem_of_getElem? (i := 6) rfl)) (jWr_29 _ (List.mem_of_getElem? (i := 7) rfl)) (jWr_29 _ (List.mem_of_getElem? (i := 8) rfl)) (jWr_2 _ (List.mem_of_getElem? (i := 21) rfl)) (jWr_29 _ (List.mem_of_getElem? (i := 9) rfl))) rfl rfl rfl (by decide +kernel) ⟨by rw [← hR]; exact Nat.le_of_ble_eq_true rfl, by rw [← hR]; exact Nat.le_of_ble_eq_true rfl⟩) ⟨fun a U g mk q => by obtain ⟨q0, q1, q2, qK, q10, q11, q12, q13, q14⟩ := q; exact ⟨q0, q1, q2, jG.calling g mk a qK, q10, q11, q12, q13, q14⟩, hh_3.recv (C := RX1) (T := TX1) (N := 17) hB3 rfl (by decide) hg_r0 hK, fun U hU hW => ⟨rfl, hU, hh_3.2.1, hG.step hW hU hh_3.1, hg_r0, hg_tx_, (hh_3.2.2.1.sub (L1 := [(r0, 3, 3, .int pl), (r0, 3, 2, .ref tx_)]) [0, 1] rfl), (hh_3.2.2.2.2.2.2.2.1.sub (L1 := [(tx_, 173, 1500, ca 1, ft)]) [0] rfl), by first | omega | (refine ⟨?_, ?_, ?_⟩ <;> (first | omega | rfl | assumption | decide | exact Or.inl rfl | exact Or.inr rfl | (simp only; omega)))⟩⟩ rfl rfl hl.1 rfl (lv_room (Nat.le_of_ble_eq_true rfl)) dX1_placeOf_31 ⟨Nat.zero_le _, Nat.zero_le _⟩) hh_3.1 (fun q _ h => h) (fun q h => h) (fun r_18 u_17 t_17 H_17 locs_17 ht_17 hvm_17 hr_18 hb_17 hz_17 hk_17 hS_17 => ?_)
              rw [ht_17] at hb_17
              obtain ⟨hb_171, hb_172, hb_173, hb_174, hb_175⟩ := hb_17
              have hh_17 : jSt (dC, dI) B base G0 G0 EX1_placeOfU s.heap 0 0 [(r0, 3, 3, .int pl), (r0, 3, 2, .ref tx_)] [(tx_, 173, 1500, ca 1, ft)] [] H_17 locs_17 := ((hh_3.call hb_171 hb_172 hb_173 hb_174 hS_17 rfl (L1 := [(r0, 3, 3, .int pl), (r0, 3, 2, .ref tx_)]) [0, 1] rfl rfl (M1 := [(tx_, 173, 1500, ca 1, ft)]) [0] rfl rfl (I1 := []) [] rfl rfl).more hb_175)
              clear hh_3 ht_17 hvm_17 hz_17 hk_17 hS_17 hb_171 hb_172 hb_173 hb_174 hb_175
              obtain ⟨hr_18b, hr_18p⟩ := hr_18
              have hr_18' := jb_01 hr_18b
              refine lv_if_eq (tgt := 40) hx hb dX1_placeOf_34 (by decide) (fun c_19 => ?_) (fun c_19 => ?_)
              · skip
                have c_19' : r_18.toInt = 0 := jb_eq (rfl) ((by decide)) c_19
                obtain ⟨z_20, ez_20⟩ : ∃ y : Int32, y = v3_3 + 1 := ⟨_, rfl⟩
                refine lv_iinc (v := z_20) (lv' := [(3, .int z_20), (0, .ref r0), (1, .int a1), (2, .int a2), (4, .int v4_3)]) hx hb dX1_placeOf_40 hl (k := 3) rfl (by rw [ez_20]; rfl) (by decide) rfl (fun ls hl => ?_)
                have hz_20 : z_20.toInt = v3_3.toInt + 1 := by rw [ez_20]; exact jb_iadd2 (rfl) (by decide) (by omega)
                refine lv_goto (tgt := 15) hx hb dX1_placeOf_43 (by decide) ?_
                exact L15 z_20 v4_3 (kf - 1) _ _ hh_17 (by refine ⟨by omega, by omega, by omega, by omega, by omega, ?_⟩; exact (jdL_s (by omega) (by omega) (by omega) (by omega) (by rw [← hr_18p]; omega)).trans hi_3_5) (by omega) _ (lv_sub hl [1, 2, 3, 0, 4] rfl)
              · skip
                have c_19' : r_18.toInt ≠ 0 := jb_eq_n (rfl) ((by decide)) c_19
                obtain ⟨z_21, ez_21⟩ : ∃ y : Int32, y = v4_3 + 1 := ⟨_, rfl⟩
                refine lv_iinc (v := z_21) (lv' := [(4, .int z_21), (0, .ref r0), (1, .int a1), (2, .int a2), (3, .int v3_3)]) hx hb dX1_placeOf_37 hl (k := 4) rfl (by rw [ez_21]; rfl) (by decide) rfl (fun ls hl => ?_)
                have hz_21 : z_21.toInt = v4_3.toInt + 1 := by rw [ez_21]; exact jb_iadd2 (rfl) (by decide) (by omega)
                obtain ⟨z_22, ez_22⟩ : ∃ y : Int32, y = v3_3 + 1 := ⟨_, rfl⟩
                refine lv_iinc (v := z_22) (lv' := [(3, .int z_22), (4, .int z_21), (0, .ref r0), (1, .int a1), (2, .int a2)]) hx hb dX1_placeOf_40 hl (k := 4) rfl (by rw [ez_22]; rfl) (by decide) rfl (fun ls hl => ?_)
                have hz_22 : z_22.toInt = v3_3.toInt + 1 := by rw [ez_22]; exact jb_iadd2 (rfl) (by decide) (by omega)
                refine lv_goto (tgt := 15) hx hb dX1_placeOf_43 (by decide) ?_
                exact L15 z_22 z_21 (kf - 1) _ _ hh_17 (by refine ⟨by omega, by omega, by omega, by omega, by omega, ?_⟩; exact (jdL_s (by omega) (by omega) (by omega) (by omega) (by rw [← hr_18p]; omega)).trans hi_3_5) (by omega) _ (lv_sub hl [2, 3, 4, 0, 1] rfl)
      exact L15 (pl.toInt - (0 : Int32).toInt : Int).toNat.succ 0 0 ((pl.toInt).toNat) _ _ hh (by refine ⟨by omega, by omega, by omega, by omega, by omega, ?_⟩; rw [hk0]) (by omega) _ (lv_sub hl [2, 3, 4, 1, 0] rfl)
    · skip
      have c_2' : a2.toInt < 0 := jb_ge_n (rfl) ((by decide)) c_2
      refine lv_iconst (v := (-1)) hx hb dX1_placeOf_8 (by decide) ?_
      rw [hQ]
      exact W.iret (v := (-1)) hx hb hr (fun t ht hW => ⟨⟨(-1), (), rfl, by refine ⟨by omega, by omega, ?_⟩; unfold jdP; rw [if_pos (by omega)]; exact hkm1, hh.rt (M1 := []) [] rfl ht⟩, by rw [ht]; try exact hh.1.1, fun q h9 hq => by rw [ht]; try exact hh.1.2.1 q h9 hq⟩) hh.1.2.2 dX1_placeOf_9
end
section
def EX1_copyTextU : List (Nat × Nat) := [(3, 3), (173, 0)]
def EX1_replaceU : List (Nat × Nat) := [(3, 3), (173, 0)]
set_option maxHeartbeats 4000000 in
set_option maxRecDepth 20000 in
theorem uX1_copyTextU (l : Launch) (dC : Nat → ClassId) (dI : Nat → Nat → Nat) (ca : Nat → ClassId) (base : Nat) (B : jF) (hB : jBok B) (hAp : jAp (dC, dI)) (hB3 : ∀ n G a H, B 3 n G a H ↔ jOb (dC, dI) 3 17 (F3 n G) a H) (hB173 : ∀ n G a H, B 173 n G a H ↔ jAr (dC, dI) (ca 1) (fun j z => True) n a H) (G0 : jT) (H0 : Heap) (r0 : Nat) (r1 : Nat) (n0 : Nat) (n1 : Nat) (tx_ : Nat) (ty_ : Nat) (pm : Int32) (tq : jDtl) (ft : Nat → Int32) (fy : Nat → Int32) : Met l yX1_copyText (jw yX1_copyText cX1_copyText 2 none) ({ frames := 1, cells := 0, slots := 0, locals := 61 }) (va_Pc [.ref r0, .ref r1] (fun U => U.heap = H0 ∧ jX B base G0 [] H0 ∧ jG dC dI ca base U ∧ G0 r0 = some (3, n0) ∧ G0 r1 = some (3, n1) ∧ G0 tx_ = some (173, 1500) ∧ G0 ty_ = some (173, 1500) ∧ jP (dC, dI) G0 H0 [(r0, 3, 2, .ref tx_), (r1, 3, 2, .ref ty_), (r1, 3, 3, .int pm)] ∧ jMc (dC, dI) G0 H0 [(tx_, 173, 1500, ca 1, ft), (ty_, 173, 1500, ca 1, fy)] ∧ jIs (dC, dI) G0 H0 [(jFcd, jCD dC dI ca G0 (some r0) tq)] ∧ 0 ≤ pm.toInt ∧ pm.toInt ≤ 1500)) (va_Qv (S := Int32 × (Nat → Int32)) (fun u => u.1.toInt = pm.toInt ∧ jdW u.2 fy) (fun u t => (jRt (dC, dI) B base G0 EX1_copyTextU H0 [(r0, 3, 3, .int u.1)] t.heap ∧ jMc (dC, dI) G0 t.heap [(tx_, 173, 1500, ca 1, u.2)]) ∧ jIs (dC, dI) G0 t.heap [(jFcd, jCD dC dI ca G0 (some r0) tq)]) (jA base)) 0 0 (jA base) := by
  refine Met.ofW (cc := cX1_copyText) (maxL := 2) (ret := none) (by decide) rfl ?_
  intro p e s m args below meth c s₁ Bd hml hv
  obtain ⟨rfl, hH0, hX, hG, hg_r0, hg_r1, hg_tx_, hg_ty_, hP0, hM0, hI0, hp0, hp1⟩ := hv
  have hK := hG.1
  have hx := Bd.exec
  have hb := Bd.bytes
  have hr := Bd.returns
  have hts := atoms_spec (ws := (jw yX1_copyText cX1_copyText 2 none)) Bd.pre
  have htw : ∀ w ∈ jWl, w.before _ s = true := fun w h => hts w (List.mem_cons_of_mem _ h)
  have hown : s.vm.findClass RX1 = some m.cls := findClass_of_methodNamed Bd.named
  have hlocks := Bd.notSynchronized
  obtain ⟨Q, hQ⟩ : ∃ Q, Q = MQ below (va_Qv (S := Int32 × (Nat → Int32)) (fun u => u.1.toInt = pm.toInt ∧ jdW u.2 fy) (fun u t => (jRt (dC, dI) B base G0 EX1_copyTextU H0 [(r0, 3, 3, .int u.1)] t.heap ∧ jMc (dC, dI) G0 t.heap [(tx_, 173, 1500, ca 1, u.2)]) ∧ jIs (dC, dI) G0 t.heap [(jFcd, jCD dC dI ca G0 (some r0) tq)]) (jA base)) ([.ref r0, .ref r1] : List Value).toArray s 0 0 (jA base) := ⟨_, rfl⟩
  rw [← hQ]
  have hl := lv_entry ([.ref r0, .ref r1]) (n := 2) (Nat.le_of_ble_eq_true rfl)
  rw [lg_entry_eq]
  generalize (lg_sl ([.ref r0, .ref r1]) ++ List.replicate (2 - (lg_sl ([.ref r0, .ref r1])).length) Slot.unset).toArray = ls at hl ⊢
  have hl : lv_has ls 2 [(0, .ref r0), (1, .ref r1)] := hl
  generalize hR : (headSpec (jw yX1_copyText cX1_copyText 2 none) ({ frames := 1, cells := 0, slots := 0, locals := 61 })).room = R
  subst hH0
  have hh : jSt (dC, dI) B base G0 G0 EX1_copyTextU s.heap 0 0 [(r0, 3, 2, .ref tx_), (r1, 3, 2, .ref ty_), (r1, 3, 3, .int pm)] [(tx_, 173, 1500, ca 1, ft), (ty_, 173, 1500, ca 1, fy)] [(jFcd, jCD dC dI ca G0 (some r0) tq)] s.heap [] := jSt.start hX hP0 hM0 hI0
  clear hX hP0
  have hk0 : (0 : Int32).toInt = 0 := by decide
  have hk1 : (1 : Int32).toInt = 1 := by decide
  have hk1500 : (1500 : Int32).toInt = 1500 := by decide
  have hly_3_2 := htw (u_lay RX1 TX1 2) (jWc_wsX10 _ (u_in_lay (by decide)))
  have hly_3_3 := htw (u_lay RX1 TX1 3) (jWc_wsX10 _ (u_in_lay (by decide)))
  have hlk_15 := (htw (.fieldLink RX1 15 "ProofServer$Document" "text" "[I") (jWr_10 _ (List.mem_of_getElem? (i := 6) rfl)))
  have hlk_42 := (htw (.fieldLink RX1 42 "ProofServer$Document" "length" "I") (jWr_29 _ (List.mem_of_getElem? (i := 5) rfl)))
  refine lv_aload_n hx hb dX1_copyText_0 rfl (lv_at hl 1 rfl) ?_
  refine j7_read hx hb hown hK (C := RX1) (T := TX1) (N := 17) rfl hly_3_2 hlk_15 (hh.at 1 rfl) dX1_copyText_1 ?_
  refine lv_iconst (v := 0) hx hb dX1_copyText_4 (by decide) ?_
  refine lv_aload_n hx hb dX1_copyText_5 rfl (lv_at hl 0 rfl) ?_
  refine j7_read hx hb hown hK (C := RX1) (T := TX1) (N := 17) rfl hly_3_2 hlk_15 (hh.at 0 rfl) dX1_copyText_6 ?_
  refine lv_iconst (v := 0) hx hb dX1_copyText_9 (by decide) ?_
  refine lv_sipush (v := 1500) hx hb dX1_copyText_10 (by decide) ?_
  have hd_2 := hh.iv 0 rfl
  have hd_2f := hh.at 0 rfl
  have hh_3 := hh.sub (L1 := [(r0, 3, 2, .ref tx_), (r1, 3, 2, .ref ty_), (r1, 3, 3, .int pm)]) [0, 1, 2] rfl (M1 := [(tx_, 173, 1500, ca 1, ft), (ty_, 173, 1500, ca 1, fy)]) [0, 1] rfl (I1 := []) [] rfl
  clear hh
  refine j7_acopyX hx hb (by rw [hml]; exact hl.1.symm) hown (htw (.methodLink RX1 36 arraycopyName) (jWr_35 _ (List.mem_of_getElem? (i := 23) rfl))) (htw (.native arraycopyName) (jWr_16 _ (List.mem_of_getElem? (i := 19) rfl))) (htw (.static arraycopyName) (jWr_16 _ (List.mem_of_getElem? (i := 20) rfl))) (htw (.initialized "java/lang/System") (jWr_16 _ (List.mem_of_getElem? (i := 21) rfl))) hK hh_3 hB hB173 hB173 1 rfl (by decide) (by decide) (by decide) rfl 1 0 rfl rfl (M1 := []) [] rfl rfl rfl hg_ty_ hg_tx_ (x := 0) (y := 0) (z := 1500) (by decide) (by decide) (by decide) (by omega) (fun _ _ _ => trivial) (by rw [← hR]; exact Nat.le_of_ble_eq_true rfl) (by rw [← hR]; exact Nat.le_of_ble_eq_true rfl) dX1_copyText_13 (fun H_1 locs_1 fs_4 hv_1 ho_1 hr_1 hh_1 => ?_)
  clear hh_3
  have hd_2n := jCD.arr hd_2 hg_r0 hg_tx_ hd_2f hr_1
  have hh_5 := hh_1.addI (jCD.ie hd_2n)
  clear hh_1
  clear hd_2 hd_2f hd_2n hr_1
  refine lv_aload_n hx hb dX1_copyText_16 rfl (lv_at hl 0 rfl) ?_
  refine lv_aload_n hx hb dX1_copyText_17 rfl (lv_at hl 1 rfl) ?_
  refine j7_read hx hb hown hK (C := RX1) (T := TX1) (N := 17) rfl hly_3_3 hlk_42 (hh_5.at 2 rfl) dX1_copyText_18 ?_
  have hd_7 := hh_5.iv 0 rfl
  have hd_72 := hh_5.at 0 rfl
  have hh_8 := hh_5.sub (L1 := [(r0, 3, 2, .ref tx_), (r1, 3, 2, .ref ty_), (r1, 3, 3, .int pm)]) [0, 1, 2] rfl (M1 := [(tx_, 173, 1500, ca 1, fs_4)]) [0] rfl (I1 := []) [] rfl
  clear hh_5
  refine j7_putX hx hb hown hK hh_8 hB hAp hB3 (C := RX1) (T := TX1) (N := 17) rfl (by decide) hg_r0 (i := 3) (by decide) hly_3_3 rfl hlk_42 rfl (ty := .int) (v := .int pm) (by decide +kernel) rfl rfl (⟨_, rfl, by omega, by omega⟩) rfl (L1 := [(r0, 3, 2, .ref tx_), (r1, 3, 2, .ref ty_)]) [0, 1] rfl rfl rfl dX1_copyText_21 (fun H_6 locs_6 hr_6 hh_6 => ?_)
  clear hh_8
  have hd_7n := jCD.fld hd_7 hg_r0 hr_6 hd_72 (hh_6.at 1 rfl)
  have hh_9 := hh_6.addI (jCD.ie hd_7n)
  clear hh_6
  clear hd_7 hd_7n hd_72 hr_6
  rw [hQ]
  exact W.vret hx hb hr (fun t ht hW => ⟨⟨(pm, fs_4), rfl, by (try dsimp only); exact ⟨rfl, fun j h0 h1 => (hv_1 j (by omega) (by omega)).trans (congrArg (jSo fy) (by omega))⟩, ⟨⟨hh_9.rt (M1 := [(r0, 3, 3, .int pm)]) [0] rfl ht, by rw [ht]; exact hh_9.2.2.2.2.2.2.2.1.sub [0] rfl⟩, by rw [ht]; exact hh_9.2.2.2.2.2.2.2.2.sub (L1 := [(jFcd, jCD dC dI ca G0 (some r0) tq)]) [0] rfl⟩⟩, by rw [ht]; try exact hh_9.1.1, fun q h9 hq => by rw [ht]; try exact hh_9.1.2.1 q h9 hq⟩) hh_9.1.2.2 dX1_copyText_24
set_option maxHeartbeats 4000000 in
set_option maxRecDepth 20000 in
theorem uX1_replaceU (l : Launch) (dC : Nat → ClassId) (dI : Nat → Nat → Nat) (ca : Nat → ClassId) (base : Nat) (B : jF) (hB : jBok B) (hAp : jAp (dC, dI)) (hB3 : ∀ n G a H, B 3 n G a H ↔ jOb (dC, dI) 3 17 (F3 n G) a H) (hB6 : ∀ n G a H, B 6 n G a H ↔ jOb (dC, dI) 6 12 (F6 n G) a H) (hB140 : ∀ n G a H, B 140 n G a H ↔ jAr (dC, dI) (ca 1) (fun j z => True) n a H) (hB141 : ∀ n G a H, B 141 n G a H ↔ jAr (dC, dI) (ca 1) (fun j z => True) n a H) (hB142 : ∀ n G a H, B 142 n G a H ↔ jAr (dC, dI) (ca 1) (fun j z => True) n a H) (hB146 : ∀ n G a H, B 146 n G a H ↔ jAr (dC, dI) (ca 1) (fun j z => True) n a H) (hB173 : ∀ n G a H, B 173 n G a H ↔ jAr (dC, dI) (ca 1) (fun j z => True) n a H) (G0 : jT) (H0 : Heap) (r0 : Nat) (a1 : Int32) (a2 : Int32) (r3 : Nat) (a4 : Int32) (n0 : Nat) (pl : Int32) (tx_ : Nat) (pv : Int32) (pu : Int32) (wk : Nat) (wi : Nat) (wz : Nat) (jnx : Nat) (jkf : Nat) (jks : Nat) (jun : Nat) (T9 : Nat → Int → Int) (f0 : Nat → Int32) (tq : jDtl) (fk : Nat → Int32) (fi : Nat → Int32) (fz : Nat → Int32) (fn : Nat → Int32) (fa : Nat → Int32) (fs : Nat → Int32) (fu : Nat → Int32) (ft : Nat → Int32) : Met l yX1_replace (jw yX1_replace cX1_replace 8 (some .boolean)) ({ frames := 2, cells := 0, slots := 0, locals := 61 }) (va_Pc [.ref r0, .int a1, .int a2, .ref r3, .int a4] (fun U => U.heap = H0 ∧ jX B base G0 [] H0 ∧ jG dC dI ca base U ∧ G0 r0 = some (3, n0) ∧ G0 r3 = some (6, 0) ∧ G0 tx_ = some (173, 1500) ∧ G0 wk = some (140, 1502) ∧ G0 wi = some (141, 1502) ∧ G0 wz = some (142, 1502) ∧ G0 jnx = some (143, 1502) ∧ G0 jkf = some (144, 1502) ∧ G0 jks = some (145, 1502) ∧ G0 jun = some (146, 3000) ∧ jP (dC, dI) G0 H0 [(r0, 3, 3, .int pl), (r0, 3, 2, .ref tx_), (r3, 6, 7, .int pv), (r3, 6, 8, .int pu), (r3, 6, 0, .ref wk), (r3, 6, 1, .ref wi), (r3, 6, 2, .ref wz), (r3, 6, 3, .ref jnx), (r3, 6, 4, .ref jkf), (r3, 6, 5, .ref jks), (r3, 6, 6, .ref jun)] ∧ jMc (dC, dI) G0 H0 [(wk, 140, 1502, ca 1, fk), (wi, 141, 1502, ca 1, fi), (wz, 142, 1502, ca 1, fz), (jnx, 143, 1502, ca 1, fn), (jkf, 144, 1502, ca 1, fa), (jks, 145, 1502, ca 1, fs), (jun, 146, 3000, ca 1, fu), (tx_, 173, 1500, ca 1, ft)] ∧ jIs (dC, dI) G0 H0 [(jFcd, jCD dC dI ca G0 (some r0) tq)] ∧ 0 ≤ pl.toInt ∧ pl.toInt ≤ 1500 ∧ -1 ≤ a1.toInt ∧ a1.toInt ≤ 1500 ∧ -1 ≤ a2.toInt ∧ a2.toInt ≤ 1500 ∧ 0 ≤ pv.toInt ∧ pv.toInt ≤ 1502 ∧ 0 ≤ pu.toInt ∧ pu.toInt ≤ 3000 ∧ jjTC T9 pv.toInt pu.toInt fk fi fz fn fa fs fu ∧ jqR fk fi fz fa fs pv.toInt pu.toInt ∧ f0 = ft)) (va_Qi (S := Int32 × (Nat → Int32)) (fun r u => (r = 0 ∨ r = 1) ∧ ((r.toInt = 1 ∧ (0 ≤ a1.toInt ∧ a1.toInt ≤ a2.toInt ∧ a2.toInt ≤ pl.toInt ∧ 0 ≤ jqZ T9 pv.toInt a4.toInt ∧ jqZ T9 pv.toInt a4.toInt ≤ 1500 ∧ a1.toInt + jqZ T9 pv.toInt a4.toInt + (pl.toInt - a2.toInt) ≤ 1500) ∧ u.1.toInt = a1.toInt + jqZ T9 pv.toInt a4.toInt + (pl.toInt - a2.toInt) ∧ jdG (jSo f0) (jSo u.2) a1.toInt a2.toInt (jqZ T9 pv.toInt a4.toInt) (fun j => jqA T9 pv.toInt a4.toInt j) u.1.toInt) ∨ (r.toInt = 0 ∧ ¬ (0 ≤ a1.toInt ∧ a1.toInt ≤ a2.toInt ∧ a2.toInt ≤ pl.toInt ∧ 0 ≤ jqZ T9 pv.toInt a4.toInt ∧ jqZ T9 pv.toInt a4.toInt ≤ 1500 ∧ a1.toInt + jqZ T9 pv.toInt a4.toInt + (pl.toInt - a2.toInt) ≤ 1500) ∧ u.1.toInt = pl.toInt ∧ u.2 = f0))) (fun u t => (jRt (dC, dI) B base G0 EX1_replaceU H0 [(r0, 3, 3, .int u.1)] t.heap ∧ jMc (dC, dI) G0 t.heap [(tx_, 173, 1500, ca 1, u.2)]) ∧ jIs (dC, dI) G0 t.heap [(jFcd, jCD dC dI ca G0 (some r0) tq)]) (jA base)) 0 0 (jA base) := by
  refine Met.ofW (cc := cX1_replace) (maxL := 8) (ret := (some .boolean)) (by decide) rfl ?_
  intro p e s m args below meth c s₁ Bd hml hv
  obtain ⟨rfl, hH0, hX, hG, hg_r0, hg_r3, hg_tx_, hg_wk, hg_wi, hg_wz, hg_jnx, hg_jkf, hg_jks, hg_jun, hP0, hM0, hI0, hp0, hp1, hp2, hp3, hp4, hp5, hp6, hp7, hp8, hp9, hp10, hp11, hp12⟩ := hv
  have hK := hG.1
  have hx := Bd.exec
  have hb := Bd.bytes
  have hr := Bd.returns
  have hts := atoms_spec (ws := (jw yX1_replace cX1_replace 8 (some .boolean))) Bd.pre
  have htw : ∀ w ∈ jWl, w.before _ s = true := fun w h => hts w (List.mem_cons_of_mem _ h)
  have hown : s.vm.findClass RX1 = some m.cls := findClass_of_methodNamed Bd.named
  have hlocks := Bd.notSynchronized
  obtain ⟨Q, hQ⟩ : ∃ Q, Q = MQ below (va_Qi (S := Int32 × (Nat → Int32)) (fun r u => (r = 0 ∨ r = 1) ∧ ((r.toInt = 1 ∧ (0 ≤ a1.toInt ∧ a1.toInt ≤ a2.toInt ∧ a2.toInt ≤ pl.toInt ∧ 0 ≤ jqZ T9 pv.toInt a4.toInt ∧ jqZ T9 pv.toInt a4.toInt ≤ 1500 ∧ a1.toInt + jqZ T9 pv.toInt a4.toInt + (pl.toInt - a2.toInt) ≤ 1500) ∧ u.1.toInt = a1.toInt + jqZ T9 pv.toInt a4.toInt + (pl.toInt - a2.toInt) ∧ jdG (jSo f0) (jSo u.2) a1.toInt a2.toInt (jqZ T9 pv.toInt a4.toInt) (fun j => jqA T9 pv.toInt a4.toInt j) u.1.toInt) ∨ (r.toInt = 0 ∧ ¬ (0 ≤ a1.toInt ∧ a1.toInt ≤ a2.toInt ∧ a2.toInt ≤ pl.toInt ∧ 0 ≤ jqZ T9 pv.toInt a4.toInt ∧ jqZ T9 pv.toInt a4.toInt ≤ 1500 ∧ a1.toInt + jqZ T9 pv.toInt a4.toInt + (pl.toInt - a2.toInt) ≤ 1500) ∧ u.1.toInt = pl.toInt ∧ u.2 = f0))) (fun u t => (jRt (dC, dI) B base G0 EX1_replaceU H0 [(r0, 3, 3, .int u.1)] t.heap ∧ jMc (dC, dI) G0 t.heap [(tx_, 173, 1500, ca 1, u.2)]) ∧ jIs (dC, dI) G0 t.heap [(jFcd, jCD dC dI ca G0 (some r0) tq)]) (jA base)) ([.ref r0, .int a1, .int a2, .ref r3, .int a4] : List Value).toArray s 0 0 (jA base) := ⟨_, rfl⟩
  rw [← hQ]
  have hl := lv_entry ([.ref r0, .int a1, .int a2, .ref r3, .int a4]) (n := 8) (Nat.le_of_ble_eq_true rfl)
  rw [lg_entry_eq]
  generalize (lg_sl ([.ref r0, .int a1, .int a2, .ref r3, .int a4]) ++ List.replicate (8 - (lg_sl ([.ref r0, .int a1, .int a2, .ref r3, .int a4])).length) Slot.unset).toArray = ls at hl ⊢
  have hl : lv_has ls 8 [(0, .ref r0), (1, .int a1), (2, .int a2), (3, .ref r3), (4, .int a4)] := hl
  generalize hR : (headSpec (jw yX1_replace cX1_replace 8 (some .boolean)) ({ frames := 2, cells := 0, slots := 0, locals := 61 })).room = R
  subst hH0
  have hh : jSt (dC, dI) B base G0 G0 EX1_replaceU s.heap 0 0 [(r0, 3, 3, .int pl), (r0, 3, 2, .ref tx_), (r3, 6, 7, .int pv), (r3, 6, 8, .int pu), (r3, 6, 0, .ref wk), (r3, 6, 1, .ref wi), (r3, 6, 2, .ref wz), (r3, 6, 3, .ref jnx), (r3, 6, 4, .ref jkf), (r3, 6, 5, .ref jks), (r3, 6, 6, .ref jun)] [(wk, 140, 1502, ca 1, fk), (wi, 141, 1502, ca 1, fi), (wz, 142, 1502, ca 1, fz), (jnx, 143, 1502, ca 1, fn), (jkf, 144, 1502, ca 1, fa), (jks, 145, 1502, ca 1, fs), (jun, 146, 3000, ca 1, fu), (tx_, 173, 1500, ca 1, ft)] [(jFcd, jCD dC dI ca G0 (some r0) tq)] s.heap [] := jSt.start hX hP0 hM0 hI0
  clear hX hP0
  have hk0 : (0 : Int32).toInt = 0 := by decide
  have hk1 : (1 : Int32).toInt = 1 := by decide
  have hk1500 : (1500 : Int32).toInt = 1500 := by decide
  have hly_3_2 := htw (u_lay RX1 TX1 2) (jWc_wsX10 _ (u_in_lay (by decide)))
  have hly_3_3 := htw (u_lay RX1 TX1 3) (jWc_wsX10 _ (u_in_lay (by decide)))
  have hlk_42 := (htw (.fieldLink RX1 42 "ProofServer$Document" "length" "I") (jWr_29 _ (List.mem_of_getElem? (i := 5) rfl)))
  have hlk_15 := (htw (.fieldLink RX1 15 "ProofServer$Document" "text" "[I") (jWr_10 _ (List.mem_of_getElem? (i := 6) rfl)))
  have hrg_a1 := jb_rng a1
  have hrg_a2 := jb_rng a2
  have hrg_a4 := jb_rng a4
  refine lv_aload_n hx hb dX1_replace_0 rfl (lv_at hl 3 rfl) ?_
  refine lv_iload hx hb dX1_replace_1 (lv_at hl 4 rfl) ?_
  refine va_calli (A0 := jA base) (H0 := s.heap) (va_runV (As := [.int a4]) (rest := []) ⟨hx, hb, hml, hown, hts⟩ (uX4_sizeOfJ l dC dI ca base B hB hAp hB6 hB142 G0 s.heap r3 a4 pv pu wk wi wz jnx jkf jks jun T9 fk fi fz fn fa fs fu) (cwV 1 hts (jgV (jWr_36 _ (List.mem_of_getElem? (i := 0) rfl)) (jWr_24 _ (List.mem_of_getElem? (i := 7) rfl)) (jWr_24 _ (List.mem_of_getElem? (i := 8) rfl)) (jWr_1 _ (List.mem_of_getElem? (i := 22) rfl)) (jWr_24 _ (List.mem_of_getElem? (i := 9) rfl))) rfl rfl rfl (by decide +kernel) ⟨by rw [← hR]; exact Nat.le_of_ble_eq_true rfl, by rw [← hR]; exact Nat.le_of_ble_eq_true rfl⟩) ⟨fun a U g mk q => by obtain ⟨q0, q1, q2, qK, q10, q11, q12, q13, q14, q15, q16, q17, q18, q19, q20⟩ := q; exact ⟨q0, q1, q2, jG.calling g mk a qK, q10, q11, q12, q13, q14, q15, q16, q17, q18, q19, q20⟩, hh.recv (C := RX4) (T := TX4) (N := 12) hB6 rfl (by decide) hg_r3 hK, fun U hU hW => ⟨rfl, hU, hh.2.1, hG.step hW hU hh.1, hg_r3, hg_wk, hg_wi, hg_wz, hg_jnx, hg_jkf, hg_jks, hg_jun, (hh.2.2.1.sub (L1 := [(r3, 6, 7, .int pv), (r3, 6, 8, .int pu), (r3, 6, 0, .ref wk), (r3, 6, 1, .ref wi), (r3, 6, 2, .ref wz), (r3, 6, 3, .ref jnx), (r3, 6, 4, .ref jkf), (r3, 6, 5, .ref jks), (r3, 6, 6, .ref jun)]) [2, 3, 4, 5, 6, 7, 8, 9, 10] rfl), (hh.2.2.2.2.2.2.2.1.sub (L1 := [(wk, 140, 1502, ca 1, fk), (wi, 141, 1502, ca 1, fi), (wz, 142, 1502, ca 1, fz), (jnx, 143, 1502, ca 1, fn), (jkf, 144, 1502, ca 1, fa), (jks, 145, 1502, ca 1, fs), (jun, 146, 3000, ca 1, fu)]) [0, 1, 2, 3, 4, 5, 6] rfl), by first | omega | (refine ⟨?_, ?_, ?_, ?_, ?_⟩ <;> (first | omega | rfl | assumption | decide | exact Or.inl rfl | exact Or.inr rfl | (simp only; omega)))⟩⟩ rfl rfl hl.1 rfl (lv_room (Nat.le_of_ble_eq_true rfl)) dX1_replace_3 ⟨Nat.zero_le _, Nat.zero_le _⟩) hh.1 (fun q _ h => h) (fun q h => h) (fun r_2 u_1 t_1 H_1 locs_1 ht_1 hvm_1 hr_2 hb_1 hz_1 hk_1 hS_1 => ?_)
  rw [ht_1] at hb_1
  obtain ⟨hb_1, hbF_1⟩ := hb_1
  obtain ⟨hb_11, hb_12, hb_13, hb_14, hb_15⟩ := hb_1
  have hh_1 : jSt (dC, dI) B base G0 G0 EX1_replaceU s.heap 0 0 [(r0, 3, 3, .int pl), (r0, 3, 2, .ref tx_), (r3, 6, 7, .int pv), (r3, 6, 8, .int pu), (r3, 6, 0, .ref wk), (r3, 6, 1, .ref wi), (r3, 6, 2, .ref wz), (r3, 6, 3, .ref jnx), (r3, 6, 4, .ref jkf), (r3, 6, 5, .ref jks), (r3, 6, 6, .ref jun)] [(wk, 140, 1502, ca 1, fk), (wi, 141, 1502, ca 1, fi), (wz, 142, 1502, ca 1, fz), (jnx, 143, 1502, ca 1, fn), (jkf, 144, 1502, ca 1, fa), (jks, 145, 1502, ca 1, fs), (jun, 146, 3000, ca 1, fu), (tx_, 173, 1500, ca 1, ft)] [(jFcd, jCD dC dI ca G0 (some r0) tq)] H_1 locs_1 := ((hh.call hb_11 hb_12 hb_13 hb_14 hS_1 rfl (L1 := [(r0, 3, 3, .int pl), (r0, 3, 2, .ref tx_), (r3, 6, 7, .int pv), (r3, 6, 8, .int pu), (r3, 6, 0, .ref wk), (r3, 6, 1, .ref wi), (r3, 6, 2, .ref wz), (r3, 6, 3, .ref jnx), (r3, 6, 4, .ref jkf), (r3, 6, 5, .ref jks), (r3, 6, 6, .ref jun)]) [0, 1, 2, 3, 4, 5, 6, 7, 8, 9, 10] rfl rfl (M1 := [(wk, 140, 1502, ca 1, fk), (wi, 141, 1502, ca 1, fi), (wz, 142, 1502, ca 1, fz), (jnx, 143, 1502, ca 1, fn), (jkf, 144, 1502, ca 1, fa), (jks, 145, 1502, ca 1, fs), (jun, 146, 3000, ca 1, fu), (tx_, 173, 1500, ca 1, ft)]) [0, 1, 2, 3, 4, 5, 6, 7] rfl rfl (I1 := [(jFcd, jCD dC dI ca G0 (some r0) tq)]) [0] rfl rfl).more hb_15)
  clear hh ht_1 hvm_1 hz_1 hk_1 hS_1 hb_11 hb_12 hb_13 hb_14 hb_15
  obtain ⟨hr_2_0, hr_2_1⟩ := hr_2
  refine lv_istore (lv' := [(5, .int r_2), (0, .ref r0), (1, .int a1), (2, .int a2), (3, .ref r3), (4, .int a4)]) hx hb dX1_replace_6 hl (by decide) rfl (fun ls hl => ?_)
  refine lv_aload_n hx hb dX1_replace_8 rfl (lv_at hl 1 rfl) ?_
  refine j7_read hx hb hown hK (C := RX1) (T := TX1) (N := 17) rfl hly_3_3 hlk_42 (hh_1.at 0 rfl) dX1_replace_9 ?_
  refine lv_iload_n hx hb dX1_replace_12 rfl (lv_at hl 3 rfl) ?_
  refine lv_isub hx hb dX1_replace_13 ?_
  refine lv_topi (fun z_3 ez_3 => ?_)
  have hz_3 : z_3.toInt = pl.toInt - a2.toInt := by rw [ez_3]; exact jb_isub2 (rfl) (rfl) (by omega)
  refine lv_istore (lv' := [(6, .int z_3), (5, .int r_2), (0, .ref r0), (1, .int a1), (2, .int a2), (3, .ref r3), (4, .int a4)]) hx hb dX1_replace_14 hl (by decide) rfl (fun ls hl => ?_)
  refine lv_iload_n hx hb dX1_replace_16 rfl (lv_at hl 3 rfl) ?_
  refine lv_if_lt (tgt := 56) hx hb dX1_replace_17 (by decide) (fun c_4 => ?_) (fun c_4 => ?_)
  · skip
    have c_4' : a1.toInt < 0 := jb_lt (rfl) ((by decide)) c_4
    refine lv_iconst (v := 0) hx hb dX1_replace_56 (by decide) ?_
    rw [hQ]
    exact W.zret (v := 0) hx hb hr (jb_nz (Or.inl rfl)) (fun t ht hW => ⟨⟨0, (pl, ft), rfl, ⟨(Or.inl rfl), by (try dsimp only); skip; (try dsimp only); exact Or.inr ⟨hk0, fun h9 => by have h8 := hr_2_1; omega, rfl, hp12.symm⟩⟩, ⟨⟨hh_1.rt (M1 := [(r0, 3, 3, .int pl)]) [0] rfl ht, by rw [ht]; exact hh_1.2.2.2.2.2.2.2.1.sub [7] rfl⟩, by rw [ht]; exact hh_1.2.2.2.2.2.2.2.2.sub (L1 := [(jFcd, jCD dC dI ca G0 (some r0) tq)]) [0] rfl⟩⟩, by rw [ht]; try exact hh_1.1.1, fun q h9 hq => by rw [ht]; try exact hh_1.1.2.1 q h9 hq⟩) hh_1.1.2.2 dX1_replace_57
  · skip
    have c_4' : a1.toInt ≥ 0 := jb_lt_n (rfl) ((by decide)) c_4
    refine lv_iload_n hx hb dX1_replace_20 rfl (lv_at hl 4 rfl) ?_
    refine lv_iload_n hx hb dX1_replace_21 rfl (lv_at hl 3 rfl) ?_
    refine lv_icmp_lt (tgt := 56) hx hb dX1_replace_22 (by decide) (fun c_5 => ?_) (fun c_5 => ?_)
    · skip
      have c_5' : a2.toInt < a1.toInt := jb_lt (rfl) (rfl) c_5
      refine lv_iconst (v := 0) hx hb dX1_replace_56 (by decide) ?_
      rw [hQ]
      exact W.zret (v := 0) hx hb hr (jb_nz (Or.inl rfl)) (fun t ht hW => ⟨⟨0, (pl, ft), rfl, ⟨(Or.inl rfl), by (try dsimp only); skip; (try dsimp only); exact Or.inr ⟨hk0, fun h9 => by have h8 := hr_2_1; omega, rfl, hp12.symm⟩⟩, ⟨⟨hh_1.rt (M1 := [(r0, 3, 3, .int pl)]) [0] rfl ht, by rw [ht]; exact hh_1.2.2.2.2.2.2.2.1.sub [7] rfl⟩, by rw [ht]; exact hh_1.2.2.2.2.2.2.2.2.sub (L1 := [(jFcd, jCD dC dI ca G0 (some r0) tq)]) [0] rfl⟩⟩, by rw [ht]; try exact hh_1.1.1, fun q h9 hq => by rw [ht]; try exact hh_1.1.2.1 q h9 hq⟩) hh_1.1.2.2 dX1_replace_57
    · skip
      have c_5' : a2.toInt ≥ a1.toInt := jb_lt_n (rfl) (rfl) c_5
      refine lv_iload hx hb dX1_replace_25 (lv_at hl 0 rfl) ?_
      refine lv_if_lt (tgt := 56) hx hb dX1_replace_27 (by decide) (fun c_6 => ?_) (fun c_6 => ?_)
      · skip
        have c_6' : z_3.toInt < 0 := jb_lt (rfl) ((by decide)) c_6
        refine lv_iconst (v := 0) hx hb dX1_replace_56 (by decide) ?_
        rw [hQ]
        exact W.zret (v := 0) hx hb hr (jb_nz (Or.inl rfl)) (fun t ht hW => ⟨⟨0, (pl, ft), rfl, ⟨(Or.inl rfl), by (try dsimp only); skip; (try dsimp only); exact Or.inr ⟨hk0, fun h9 => by have h8 := hr_2_1; omega, rfl, hp12.symm⟩⟩, ⟨⟨hh_1.rt (M1 := [(r0, 3, 3, .int pl)]) [0] rfl ht, by rw [ht]; exact hh_1.2.2.2.2.2.2.2.1.sub [7] rfl⟩, by rw [ht]; exact hh_1.2.2.2.2.2.2.2.2.sub (L1 := [(jFcd, jCD dC dI ca G0 (some r0) tq)]) [0] rfl⟩⟩, by rw [ht]; try exact hh_1.1.1, fun q h9 hq => by rw [ht]; try exact hh_1.1.2.1 q h9 hq⟩) hh_1.1.2.2 dX1_replace_57
      · skip
        have c_6' : z_3.toInt ≥ 0 := jb_lt_n (rfl) ((by decide)) c_6
        refine lv_iload hx hb dX1_replace_30 (lv_at hl 1 rfl) ?_
        refine lv_if_lt (tgt := 56) hx hb dX1_replace_32 (by decide) (fun c_7 => ?_) (fun c_7 => ?_)
        · skip
          have c_7' : r_2.toInt < 0 := jb_lt (rfl) ((by decide)) c_7
          first | (have hr_2_0q := hr_2_0.resolve_left (by omega); clear hr_2_0) | (have hr_2_0q := hr_2_0.resolve_right (by omega); clear hr_2_0) | skip
          refine lv_iconst (v := 0) hx hb dX1_replace_56 (by decide) ?_
          rw [hQ]
          exact W.zret (v := 0) hx hb hr (jb_nz (Or.inl rfl)) (fun t ht hW => ⟨⟨0, (pl, ft), rfl, ⟨(Or.inl rfl), by (try dsimp only); skip; (try dsimp only); exact Or.inr ⟨hk0, fun h9 => by have h8 := hr_2_1; omega, rfl, hp12.symm⟩⟩, ⟨⟨hh_1.rt (M1 := [(r0, 3, 3, .int pl)]) [0] rfl ht, by rw [ht]; exact hh_1.2.2.2.2.2.2.2.1.sub [7] rfl⟩, by rw [ht]; exact hh_1.2.2.2.2.2.2.2.2.sub (L1 := [(jFcd, jCD dC dI ca G0 (some r0) tq)]) [0] rfl⟩⟩, by rw [ht]; try exact hh_1.1.1, fun q h9 hq => by rw [ht]; try exact hh_1.1.2.1 q h9 hq⟩) hh_1.1.2.2 dX1_replace_57
        · skip
          have c_7' : r_2.toInt ≥ 0 := jb_lt_n (rfl) ((by decide)) c_7
          first | (have hr_2_0q := hr_2_0.resolve_left (by omega); clear hr_2_0) | (have hr_2_0q := hr_2_0.resolve_right (by omega); clear hr_2_0) | skip
          refine lv_iload hx hb dX1_replace_35 (lv_at hl 1 rfl) ?_
          refine lv_sipush (v := 1500) hx hb dX1_replace_37 (by decide) ?_
          refine lv_icmp_gt (tgt := 56) hx hb dX1_replace_40 (by decide) (fun c_8 => ?_) (fun c_8 => ?_)
          · skip
            have c_8' : r_2.toInt > 1500 := jb_gt (rfl) ((by decide)) c_8
            first | (have hr_2_0q := hr_2_0.resolve_left (by omega); clear hr_2_0) | (have hr_2_0q := hr_2_0.resolve_right (by omega); clear hr_2_0) | skip
            refine lv_iconst (v := 0) hx hb dX1_replace_56 (by decide) ?_
            rw [hQ]
            exact W.zret (v := 0) hx hb hr (jb_nz (Or.inl rfl)) (fun t ht hW => ⟨⟨0, (pl, ft), rfl, ⟨(Or.inl rfl), by (try dsimp only); skip; (try dsimp only); exact Or.inr ⟨hk0, fun h9 => by have h8 := hr_2_1; omega, rfl, hp12.symm⟩⟩, ⟨⟨hh_1.rt (M1 := [(r0, 3, 3, .int pl)]) [0] rfl ht, by rw [ht]; exact hh_1.2.2.2.2.2.2.2.1.sub [7] rfl⟩, by rw [ht]; exact hh_1.2.2.2.2.2.2.2.2.sub (L1 := [(jFcd, jCD dC dI ca G0 (some r0) tq)]) [0] rfl⟩⟩, by rw [ht]; try exact hh_1.1.1, fun q h9 hq => by rw [ht]; try exact hh_1.1.2.1 q h9 hq⟩) hh_1.1.2.2 dX1_replace_57
          · skip
            have c_8' : r_2.toInt ≤ 1500 := jb_gt_n (rfl) ((by decide)) c_8
            first | (have hr_2_0q := hr_2_0.resolve_left (by omega); clear hr_2_0) | (have hr_2_0q := hr_2_0.resolve_right (by omega); clear hr_2_0) | skip
            refine lv_iload_n hx hb dX1_replace_43 rfl (lv_at hl 3 rfl) ?_
            refine lv_iload hx hb dX1_replace_44 (lv_at hl 1 rfl) ?_
            refine lv_iadd hx hb dX1_replace_46 ?_
            refine lv_topi (fun z_9 ez_9 => ?_)
            have hz_9 : z_9.toInt = a1.toInt + r_2.toInt := by rw [ez_9]; exact jb_iadd2 (rfl) (rfl) (by omega)
            refine lv_iload hx hb dX1_replace_47 (lv_at hl 0 rfl) ?_
            refine lv_iadd hx hb dX1_replace_49 ?_
            refine lv_topi (fun z_10 ez_10 => ?_)
            have hz_10 : z_10.toInt = z_9.toInt + z_3.toInt := by rw [ez_10]; exact jb_iadd2 (rfl) (rfl) (by omega)
            refine lv_sipush (v := 1500) hx hb dX1_replace_50 (by decide) ?_
            refine lv_icmp_le (tgt := 58) hx hb dX1_replace_53 (by decide) (fun c_11 => ?_) (fun c_11 => ?_)
            · skip
              have c_11' : z_10.toInt ≤ 1500 := jb_le (rfl) ((by decide)) c_11
              refine lv_aload_n hx hb dX1_replace_58 rfl (lv_at hl 2 rfl) ?_
              refine j7_read hx hb hown hK (C := RX1) (T := TX1) (N := 17) rfl hly_3_2 hlk_15 (hh_1.at 1 rfl) dX1_replace_59 ?_
              refine lv_iload_n hx hb dX1_replace_62 rfl (lv_at hl 4 rfl) ?_
              refine lv_aload_n hx hb dX1_replace_63 rfl (lv_at hl 2 rfl) ?_
              refine j7_read hx hb hown hK (C := RX1) (T := TX1) (N := 17) rfl hly_3_2 hlk_15 (hh_1.at 1 rfl) dX1_replace_64 ?_
              refine lv_iload_n hx hb dX1_replace_67 rfl (lv_at hl 3 rfl) ?_
              refine lv_iload hx hb dX1_replace_68 (lv_at hl 1 rfl) ?_
              refine lv_iadd hx hb dX1_replace_70 ?_
              refine lv_topi (fun z_12 ez_12 => ?_)
              have hz_12 : z_12.toInt = a1.toInt + r_2.toInt := by rw [ez_12]; exact jb_iadd2 (rfl) (rfl) (by omega)
              refine lv_iload hx hb dX1_replace_71 (lv_at hl 0 rfl) ?_
              have hd_14 := hh_1.iv 0 rfl
              have hd_14f := hh_1.at 1 rfl
              have hh_15 := hh_1.sub (L1 := [(r0, 3, 3, .int pl), (r0, 3, 2, .ref tx_), (r3, 6, 7, .int pv), (r3, 6, 8, .int pu), (r3, 6, 0, .ref wk), (r3, 6, 1, .ref wi), (r3, 6, 2, .ref wz), (r3, 6, 3, .ref jnx), (r3, 6, 4, .ref jkf), (r3, 6, 5, .ref jks), (r3, 6, 6, .ref jun)]) [0, 1, 2, 3, 4, 5, 6, 7, 8, 9, 10] rfl (M1 := [(wk, 140, 1502, ca 1, fk), (wi, 141, 1502, ca 1, fi), (wz, 142, 1502, ca 1, fz), (jnx, 143, 1502, ca 1, fn), (jkf, 144, 1502, ca 1, fa), (jks, 145, 1502, ca 1, fs), (jun, 146, 3000, ca 1, fu), (tx_, 173, 1500, ca 1, ft)]) [0, 1, 2, 3, 4, 5, 6, 7] rfl (I1 := []) [] rfl
              clear hh_1
              refine j7_acopyX hx hb (by rw [hml]; exact hl.1.symm) hown (htw (.methodLink RX1 36 arraycopyName) (jWr_35 _ (List.mem_of_getElem? (i := 23) rfl))) (htw (.native arraycopyName) (jWr_16 _ (List.mem_of_getElem? (i := 19) rfl))) (htw (.static arraycopyName) (jWr_16 _ (List.mem_of_getElem? (i := 20) rfl))) (htw (.initialized "java/lang/System") (jWr_16 _ (List.mem_of_getElem? (i := 21) rfl))) hK hh_15 hB hB173 hB173 1 rfl (by decide) (by decide) (by decide) rfl 7 7 rfl rfl (M1 := [(wk, 140, 1502, ca 1, fk), (wi, 141, 1502, ca 1, fi), (wz, 142, 1502, ca 1, fz), (jnx, 143, 1502, ca 1, fn), (jkf, 144, 1502, ca 1, fa), (jks, 145, 1502, ca 1, fs), (jun, 146, 3000, ca 1, fu)]) [0, 1, 2, 3, 4, 5, 6] rfl rfl rfl hg_tx_ hg_tx_ (x := a2.toInt) (y := z_12.toInt) (z := z_3.toInt) rfl rfl rfl (by omega) (fun _ _ _ => trivial) (by rw [← hR]; exact Nat.le_of_ble_eq_true rfl) (by rw [← hR]; exact Nat.le_of_ble_eq_true rfl) dX1_replace_73 (fun H_13 locs_13 fs_16 hv_13 ho_13 hr_13 hh_13 => ?_)
              clear hh_15
              have hd_14n := jCD.arr hd_14 hg_r0 hg_tx_ hd_14f hr_13
              have hh_17 := hh_13.addI (jCD.ie hd_14n)
              clear hh_13
              clear hd_14 hd_14f hd_14n hr_13
              refine lv_iconst (v := 0) hx hb dX1_replace_76 (by decide) ?_
              refine lv_istore (lv' := [(7, .int 0), (6, .int z_3), (5, .int r_2), (0, .ref r0), (1, .int a1), (2, .int a2), (3, .ref r3), (4, .int a4)]) hx hb dX1_replace_77 hl (by decide) rfl (fun ls hl => ?_)
              have L79 : ∀ (N : Nat) (v7_18 : Int32) (ft_18 : Nat → Int32) (H_18 : Heap) (locs_18 : List Loc), jSt (dC, dI) B base G0 G0 EX1_replaceU s.heap 0 0 [(r0, 3, 3, .int pl), (r0, 3, 2, .ref tx_), (r3, 6, 7, .int pv), (r3, 6, 8, .int pu), (r3, 6, 0, .ref wk), (r3, 6, 1, .ref wi), (r3, 6, 2, .ref wz), (r3, 6, 3, .ref jnx), (r3, 6, 4, .ref jkf), (r3, 6, 5, .ref jks), (r3, 6, 6, .ref jun)] [(tx_, 173, 1500, ca 1, ft_18), (wk, 140, 1502, ca 1, fk), (wi, 141, 1502, ca 1, fi), (wz, 142, 1502, ca 1, fz), (jnx, 143, 1502, ca 1, fn), (jkf, 144, 1502, ca 1, fa), (jks, 145, 1502, ca 1, fs), (jun, 146, 3000, ca 1, fu)] [(jFcd, jCD dC dI ca G0 (some r0) tq)] H_18 locs_18 → (0 ≤ v7_18.toInt ∧ v7_18.toInt ≤ r_2.toInt ∧ jdB (jSo f0) (jSo ft_18) a1.toInt a2.toInt r_2.toInt (a1.toInt + r_2.toInt + z_3.toInt) v7_18.toInt (fun j => jqA T9 pv.toInt a4.toInt j)) → (r_2.toInt - v7_18.toInt : Int) < N → ∀ ls : Array Slot, lv_has ls 8 [(0, .ref r0), (1, .int a1), (2, .int a2), (3, .ref r3), (4, .int a4), (5, .int r_2), (6, .int z_3), (7, .int v7_18)] → W p l e R s m ([.ref r0, .int a1, .int a2, .ref r3, .int a4] : List Value).toArray below meth c H_18 locs_18 0 0 Q (F0 m 79 ls []) := by
                intro N
                induction N with
                | zero => intro v7_18 ft_18 H_18 locs_18 hh_18  hi_18 hm; exact absurd hm (by omega)
                | succ N L79 =>
                  intro v7_18 ft_18 H_18 locs_18 hh_18  hi_18 hm_18 ls hl
                  obtain ⟨hi_18_0, hi_18_1, hi_18_2⟩ := hi_18
                  try clear hr_2_0
                  refine lv_iload hx hb dX1_replace_79 (lv_at hl 7 rfl) ?_
                  refine lv_iload hx hb dX1_replace_81 (lv_at hl 5 rfl) ?_
                  refine lv_icmp_ge (tgt := 109) hx hb dX1_replace_83 (by decide) (fun c_19 => ?_) (fun c_19 => ?_)
                  · skip
                    have c_19' : v7_18.toInt ≥ r_2.toInt := jb_ge (rfl) (rfl) c_19
                    refine lv_aload_n hx hb dX1_replace_109 rfl (lv_at hl 0 rfl) ?_
                    refine lv_iload_n hx hb dX1_replace_110 rfl (lv_at hl 1 rfl) ?_
                    refine lv_iload hx hb dX1_replace_111 (lv_at hl 5 rfl) ?_
                    refine lv_iadd hx hb dX1_replace_113 ?_
                    refine lv_topi (fun z_20 ez_20 => ?_)
                    have hz_20 : z_20.toInt = a1.toInt + r_2.toInt := by rw [ez_20]; exact jb_iadd2 (rfl) (rfl) (by omega)
                    refine lv_iload hx hb dX1_replace_114 (lv_at hl 6 rfl) ?_
                    refine lv_iadd hx hb dX1_replace_116 ?_
                    refine lv_topi (fun z_21 ez_21 => ?_)
                    have hz_21 : z_21.toInt = z_20.toInt + z_3.toInt := by rw [ez_21]; exact jb_iadd2 (rfl) (rfl) (by omega)
                    have hd_23 := hh_18.iv 0 rfl
                    have hd_232 := hh_18.at 1 rfl
                    have hh_24 := hh_18.sub (L1 := [(r0, 3, 3, .int pl), (r0, 3, 2, .ref tx_), (r3, 6, 7, .int pv), (r3, 6, 8, .int pu), (r3, 6, 0, .ref wk), (r3, 6, 1, .ref wi), (r3, 6, 2, .ref wz), (r3, 6, 3, .ref jnx), (r3, 6, 4, .ref jkf), (r3, 6, 5, .ref jks), (r3, 6, 6, .ref jun)]) [0, 1, 2, 3, 4, 5, 6, 7, 8, 9, 10] rfl (M1 := [(tx_, 173, 1500, ca 1, ft_18), (wk, 140, 1502, ca 1, fk), (wi, 141, 1502, ca 1, fi), (wz, 142, 1502, ca 1, fz), (jnx, 143, 1502, ca 1, fn), (jkf, 144, 1502, ca 1, fa), (jks, 145, 1502, ca 1, fs), (jun, 146, 3000, ca 1, fu)]) [0, 1, 2, 3, 4, 5, 6, 7] rfl (I1 := []) [] rfl
                    clear hh_18
                    refine j7_putX hx hb hown hK hh_24 hB hAp hB3 (C := RX1) (T := TX1) (N := 17) rfl (by decide) hg_r0 (i := 3) (by decide) hly_3_3 rfl hlk_42 rfl (ty := .int) (v := .int z_21) (by decide +kernel) rfl rfl (⟨_, rfl, by omega, by omega⟩) rfl (L1 := [(r0, 3, 2, .ref tx_), (r3, 6, 7, .int pv), (r3, 6, 8, .int pu), (r3, 6, 0, .ref wk), (r3, 6, 1, .ref wi), (r3, 6, 2, .ref wz), (r3, 6, 3, .ref jnx), (r3, 6, 4, .ref jkf), (r3, 6, 5, .ref jks), (r3, 6, 6, .ref jun)]) [1, 2, 3, 4, 5, 6, 7, 8, 9, 10] rfl rfl rfl dX1_replace_117 (fun H_22 locs_22 hr_22 hh_22 => ?_)
                    clear hh_24
                    have hd_23n := jCD.fld hd_23 hg_r0 hr_22 hd_232 (hh_22.at 1 rfl)
                    have hh_25 := hh_22.addI (jCD.ie hd_23n)
                    clear hh_22
                    clear hd_23 hd_23n hd_232 hr_22
                    refine lv_iconst (v := 1) hx hb dX1_replace_120 (by decide) ?_
                    rw [hQ]
                    exact W.zret (v := 1) hx hb hr (jb_nz (Or.inr rfl)) (fun t ht hW => ⟨⟨1, (z_21, ft_18), rfl, ⟨(Or.inr rfl), by (try dsimp only); skip; (try dsimp only); exact Or.inl ⟨hk1, by have h8 := hr_2_1; omega, by have h8 := hr_2_1; omega, hi_18_2.done (by omega) (by omega) (by have h8 := hr_2_1; omega) (by have h8 := hr_2_1; omega)⟩⟩, ⟨⟨hh_25.rt (M1 := [(r0, 3, 3, .int z_21)]) [0] rfl ht, by rw [ht]; exact hh_25.2.2.2.2.2.2.2.1.sub [0] rfl⟩, by rw [ht]; exact hh_25.2.2.2.2.2.2.2.2.sub (L1 := [(jFcd, jCD dC dI ca G0 (some r0) tq)]) [0] rfl⟩⟩, by rw [ht]; try exact hh_25.1.1, fun q h9 hq => by rw [ht]; try exact hh_25.1.2.1 q h9 hq⟩) hh_25.1.2.2 dX1_replace_121
                  · skip
                    have c_19' : v7_18.toInt < r_2.toInt := jb_ge_n (rfl) (rfl) c_19
                    refine lv_aload_n hx hb dX1_replace_86 rfl (lv_at hl 0 rfl) ?_
                    refine j7_read hx hb hown hK (C := RX1) (T := TX1) (N := 17) rfl hly_3_2 hlk_15 (hh_18.at 1 rfl) dX1_replace_87 ?_
                    refine lv_iload_n hx hb dX1_replace_90 rfl (lv_at hl 1 rfl) ?_
                    refine lv_iload hx hb dX1_replace_91 (lv_at hl 7 rfl) ?_
                    refine lv_iadd hx hb dX1_replace_93 ?_
                    refine lv_topi (fun z_26 ez_26 => ?_)
                    have hz_26 : z_26.toInt = a1.toInt + v7_18.toInt := by rw [ez_26]; exact jb_iadd2 (rfl) (rfl) (by omega)
                    refine lv_aload_n hx hb dX1_replace_94 rfl (lv_at hl 3 rfl) ?_
                    refine lv_iload hx hb dX1_replace_95 (lv_at hl 4 rfl) ?_
                    refine lv_iload hx hb dX1_replace_97 (lv_at hl 7 rfl) ?_
                    refine va_calli (A0 := jA base) (H0 := s.heap) (va_runV (As := [.int a4, .int v7_18]) (rest := [.int z_26, .ref tx_]) ⟨hx, hb, hml, hown, hts⟩ (uX4_unitAtJ l dC dI ca base B hB hAp hB6 hB140 hB141 hB142 hB146 G0 H_18 r3 a4 v7_18 pv pu wk wi wz jnx jkf jks jun T9 fk fi fz fn fa fs fu) (cwV 2 hts (jgV (jWr_36 _ (List.mem_of_getElem? (i := 1) rfl)) (jWr_25 _ (List.mem_of_getElem? (i := 5) rfl)) (jWr_25 _ (List.mem_of_getElem? (i := 6) rfl)) (jWr_1 _ (List.mem_of_getElem? (i := 22) rfl)) (jWr_25 _ (List.mem_of_getElem? (i := 7) rfl))) rfl rfl rfl (by decide +kernel) ⟨by rw [← hR]; exact Nat.le_of_ble_eq_true rfl, by rw [← hR]; exact Nat.le_of_ble_eq_true rfl⟩) ⟨fun a U g mk q => by obtain ⟨q0, q1, q2, qK, q10, q11, q12, q13, q14, q15, q16, q17, q18, q19, q20⟩ := q; exact ⟨q0, q1, q2, jG.calling g mk a qK, q10, q11, q12, q13, q14, q15, q16, q17, q18, q19, q20⟩, hh_18.recv (C := RX4) (T := TX4) (N := 12) hB6 rfl (by decide) hg_r3 hK, fun U hU hW => ⟨rfl, hU, hh_18.2.1, hG.step hW hU hh_18.1, hg_r3, hg_wk, hg_wi, hg_wz, hg_jnx, hg_jkf, hg_jks, hg_jun, (hh_18.2.2.1.sub (L1 := [(r3, 6, 7, .int pv), (r3, 6, 8, .int pu), (r3, 6, 0, .ref wk), (r3, 6, 1, .ref wi), (r3, 6, 2, .ref wz), (r3, 6, 3, .ref jnx), (r3, 6, 4, .ref jkf), (r3, 6, 5, .ref jks), (r3, 6, 6, .ref jun)]) [2, 3, 4, 5, 6, 7, 8, 9, 10] rfl), (hh_18.2.2.2.2.2.2.2.1.sub (L1 := [(wk, 140, 1502, ca 1, fk), (wi, 141, 1502, ca 1, fi), (wz, 142, 1502, ca 1, fz), (jnx, 143, 1502, ca 1, fn), (jkf, 144, 1502, ca 1, fa), (jks, 145, 1502, ca 1, fs), (jun, 146, 3000, ca 1, fu)]) [1, 2, 3, 4, 5, 6, 7] rfl), by first | omega | (refine ⟨?_, ?_, ?_, ?_, ?_, ?_, ?_⟩ <;> (first | omega | rfl | assumption | decide | exact Or.inl rfl | exact Or.inr rfl | (simp only; omega)))⟩⟩ rfl rfl hl.1 rfl (lv_room (Nat.le_of_ble_eq_true rfl)) dX1_replace_99 ⟨Nat.zero_le _, Nat.zero_le _⟩) hh_18.1 (fun q _ h => h) (fun q h => h) (fun r_28 u_27 t_27 H_27 locs_27 ht_27 hvm_27 hr_28 hb_27 hz_27 hk_27 hS_27 => ?_)
                    rw [ht_27] at hb_27
                    obtain ⟨hb_27, hbF_27⟩ := hb_27
                    obtain ⟨hb_271, hb_272, hb_273, hb_274, hb_275⟩ := hb_27
                    have hh_27 : jSt (dC, dI) B base G0 G0 EX1_replaceU s.heap 0 0 [(r0, 3, 3, .int pl), (r0, 3, 2, .ref tx_), (r3, 6, 7, .int pv), (r3, 6, 8, .int pu), (r3, 6, 0, .ref wk), (r3, 6, 1, .ref wi), (r3, 6, 2, .ref wz), (r3, 6, 3, .ref jnx), (r3, 6, 4, .ref jkf), (r3, 6, 5, .ref jks), (r3, 6, 6, .ref jun)] [(tx_, 173, 1500, ca 1, ft_18), (wk, 140, 1502, ca 1, fk), (wi, 141, 1502, ca 1, fi), (wz, 142, 1502, ca 1, fz), (jnx, 143, 1502, ca 1, fn), (jkf, 144, 1502, ca 1, fa), (jks, 145, 1502, ca 1, fs), (jun, 146, 3000, ca 1, fu)] [(jFcd, jCD dC dI ca G0 (some r0) tq)] H_27 locs_27 := ((hh_18.call hb_271 hb_272 hb_273 hb_274 hS_27 rfl (L1 := [(r0, 3, 3, .int pl), (r0, 3, 2, .ref tx_), (r3, 6, 7, .int pv), (r3, 6, 8, .int pu), (r3, 6, 0, .ref wk), (r3, 6, 1, .ref wi), (r3, 6, 2, .ref wz), (r3, 6, 3, .ref jnx), (r3, 6, 4, .ref jkf), (r3, 6, 5, .ref jks), (r3, 6, 6, .ref jun)]) [0, 1, 2, 3, 4, 5, 6, 7, 8, 9, 10] rfl rfl (M1 := [(tx_, 173, 1500, ca 1, ft_18), (wk, 140, 1502, ca 1, fk), (wi, 141, 1502, ca 1, fi), (wz, 142, 1502, ca 1, fz), (jnx, 143, 1502, ca 1, fn), (jkf, 144, 1502, ca 1, fa), (jks, 145, 1502, ca 1, fs), (jun, 146, 3000, ca 1, fu)]) [0, 1, 2, 3, 4, 5, 6, 7] rfl rfl (I1 := [(jFcd, jCD dC dI ca G0 (some r0) tq)]) [0] rfl rfl).more hb_275)
                    clear hh_18 ht_27 hvm_27 hz_27 hk_27 hS_27 hb_271 hb_272 hb_273 hb_274 hb_275
                    have hd_30 := hh_27.iv 0 rfl
                    have hh_31 := hh_27.sub (L1 := [(r0, 3, 3, .int pl), (r0, 3, 2, .ref tx_), (r3, 6, 7, .int pv), (r3, 6, 8, .int pu), (r3, 6, 0, .ref wk), (r3, 6, 1, .ref wi), (r3, 6, 2, .ref wz), (r3, 6, 3, .ref jnx), (r3, 6, 4, .ref jkf), (r3, 6, 5, .ref jks), (r3, 6, 6, .ref jun)]) [0, 1, 2, 3, 4, 5, 6, 7, 8, 9, 10] rfl (M1 := [(tx_, 173, 1500, ca 1, ft_18), (wk, 140, 1502, ca 1, fk), (wi, 141, 1502, ca 1, fi), (wz, 142, 1502, ca 1, fz), (jnx, 143, 1502, ca 1, fn), (jkf, 144, 1502, ca 1, fa), (jks, 145, 1502, ca 1, fs), (jun, 146, 3000, ca 1, fu)]) [0, 1, 2, 3, 4, 5, 6, 7] rfl (I1 := []) [] rfl
                    clear hh_27
                    have hd_30f := hh_31.at 1 rfl
                    refine j7_iastX hx hb hK hh_31 hB hB173 1 rfl (by decide) (by decide) rfl 0 rfl (M1 := [(wk, 140, 1502, ca 1, fk), (wi, 141, 1502, ca 1, fi), (wz, 142, 1502, ca 1, fz), (jnx, 143, 1502, ca 1, fn), (jkf, 144, 1502, ca 1, fa), (jks, 145, 1502, ca 1, fs), (jun, 146, 3000, ca 1, fu)]) [1, 2, 3, 4, 5, 6, 7] rfl rfl rfl hg_tx_ (x := z_26.toInt) (rfl) (by omega) (trivial) dX1_replace_102 (fun H_29 locs_29 fs_32 hv_29 ho_29 hr_29 hh_29 => ?_)
                    have hv_29 : jSo fs_32 (z_26.toInt) = r_28.toInt := by unfold jSo; rw [hv_29]; try exact rfl
                    rw [show z_26.toInt = (a1.toInt + v7_18.toInt) by omega] at hv_29 ho_29
                    clear hh_31
                    have hd_30n := jCD.arr hd_30 hg_r0 hg_tx_ hd_30f hr_29
                    have hh_33 := hh_29.addI (jCD.ie hd_30n)
                    clear hh_29
                    clear hd_30 hd_30f hd_30n hr_29
                    obtain ⟨z_34, ez_34⟩ : ∃ y : Int32, y = v7_18 + 1 := ⟨_, rfl⟩
                    refine lv_iinc (v := z_34) (lv' := [(7, .int z_34), (0, .ref r0), (1, .int a1), (2, .int a2), (3, .ref r3), (4, .int a4), (5, .int r_2), (6, .int z_3)]) hx hb dX1_replace_103 hl (k := 7) rfl (by rw [ez_34]; rfl) (by decide) rfl (fun ls hl => ?_)
                    have hz_34 : z_34.toInt = v7_18.toInt + 1 := by rw [ez_34]; exact jb_iadd2 (rfl) (by decide) (by omega)
                    refine lv_goto (tgt := 79) hx hb dX1_replace_106 (by decide) ?_
                    exact L79 z_34 fs_32 _ _ hh_33 (by refine ⟨by omega, by omega, ?_⟩; exact hi_18_2.step (by rw [hv_29]; exact hr_28) ho_29 (by omega) (by omega) (by omega) (by omega)) (by omega) _ (lv_sub hl [1, 2, 3, 4, 5, 6, 7, 0] rfl)
              exact L79 (r_2.toInt - (0 : Int32).toInt : Int).toNat.succ 0 fs_16 _ _ hh_17 (by refine ⟨by omega, by omega, ?_⟩; rw [hp12]; exact jdB.zz (w := (pl.toInt - a2.toInt)) (fun j h0 h1 => (hv_13 j (by omega) (by omega)).trans (congrArg (jSo ft) (by omega))) (fun j h0 h1 h2 => ho_13 j h0 (by omega) (by omega)) (by omega) (by omega) (by omega)) (by omega) _ (lv_sub hl [3, 4, 5, 6, 7, 2, 1, 0] rfl)
            · skip
              have c_11' : z_10.toInt > 1500 := jb_le_n (rfl) ((by decide)) c_11
              refine lv_iconst (v := 0) hx hb dX1_replace_56 (by decide) ?_
              rw [hQ]
              exact W.zret (v := 0) hx hb hr (jb_nz (Or.inl rfl)) (fun t ht hW => ⟨⟨0, (pl, ft), rfl, ⟨(Or.inl rfl), by (try dsimp only); skip; (try dsimp only); exact Or.inr ⟨hk0, fun h9 => by have h8 := hr_2_1; omega, rfl, hp12.symm⟩⟩, ⟨⟨hh_1.rt (M1 := [(r0, 3, 3, .int pl)]) [0] rfl ht, by rw [ht]; exact hh_1.2.2.2.2.2.2.2.1.sub [7] rfl⟩, by rw [ht]; exact hh_1.2.2.2.2.2.2.2.2.sub (L1 := [(jFcd, jCD dC dI ca G0 (some r0) tq)]) [0] rfl⟩⟩, by rw [ht]; try exact hh_1.1.1, fun q h9 hq => by rw [ht]; try exact hh_1.1.2.1 q h9 hq⟩) hh_1.1.2.2 dX1_replace_57
end
section
theorem dX11_makeChange_0 : decode cX11_makeChange 0 = .ok (.aload_n 0, 1) := by decide +kernel
theorem dX11_makeChange_1 : decode cX11_makeChange 1 = .ok (.getfield 28, 3) := by decide +kernel
theorem dX11_makeChange_4 : decode cX11_makeChange 4 = .ok (.iload_n 1, 1) := by decide +kernel
theorem dX11_makeChange_5 : decode cX11_makeChange 5 = .ok (.ldc_w 355, 3) := by decide +kernel
theorem dX11_makeChange_8 : decode cX11_makeChange 8 = .ok (.invokevirtual 260, 3) := by decide +kernel
theorem dX11_makeChange_11 : decode cX11_makeChange 11 = .ok (.istore_n 2, 1) := by decide +kernel
theorem dX11_makeChange_12 : decode cX11_makeChange 12 = .ok (.aload_n 0, 1) := by decide +kernel
theorem dX11_makeChange_13 : decode cX11_makeChange 13 = .ok (.getfield 28, 3) := by decide +kernel
theorem dX11_makeChange_16 : decode cX11_makeChange 16 = .ok (.iload_n 1, 1) := by decide +kernel
theorem dX11_makeChange_17 : decode cX11_makeChange 17 = .ok (.ldc_w 406, 3) := by decide +kernel
theorem dX11_makeChange_20 : decode cX11_makeChange 20 = .ok (.invokevirtual 260, 3) := by decide +kernel
theorem dX11_makeChange_23 : decode cX11_makeChange 23 = .ok (.istore_n 3, 1) := by decide +kernel
theorem dX11_makeChange_24 : decode cX11_makeChange 24 = .ok (.aload_n 0, 1) := by decide +kernel
theorem dX11_makeChange_25 : decode cX11_makeChange 25 = .ok (.getfield 28, 3) := by decide +kernel
theorem dX11_makeChange_28 : decode cX11_makeChange 28 = .ok (.iload_n 2, 1) := by decide +kernel
theorem dX11_makeChange_29 : decode cX11_makeChange 29 = .ok (.invokevirtual 283, 3) := by decide +kernel
theorem dX11_makeChange_32 : decode cX11_makeChange 32 = .ok (.iconst 3, 1) := by decide +kernel
theorem dX11_makeChange_33 : decode cX11_makeChange 33 = .ok (.if_icmp .eq 5, 3) := by decide +kernel
theorem dX11_makeChange_36 : decode cX11_makeChange 36 = .ok (.iconst 0, 1) := by decide +kernel
theorem dX11_makeChange_37 : decode cX11_makeChange 37 = .ok (.ireturn, 1) := by decide +kernel
theorem dX11_makeChange_38 : decode cX11_makeChange 38 = .ok (.iload_n 3, 1) := by decide +kernel
theorem dX11_makeChange_39 : decode cX11_makeChange 39 = .ok (.ifCond .ge 24, 3) := by decide +kernel
theorem dX11_makeChange_42 : decode cX11_makeChange 42 = .ok (.aload_n 0, 1) := by decide +kernel
theorem dX11_makeChange_43 : decode cX11_makeChange 43 = .ok (.getfield 82, 3) := by decide +kernel
theorem dX11_makeChange_46 : decode cX11_makeChange 46 = .ok (.iconst 0, 1) := by decide +kernel
theorem dX11_makeChange_47 : decode cX11_makeChange 47 = .ok (.aload_n 0, 1) := by decide +kernel
theorem dX11_makeChange_48 : decode cX11_makeChange 48 = .ok (.getfield 82, 3) := by decide +kernel
theorem dX11_makeChange_51 : decode cX11_makeChange 51 = .ok (.getfield 165, 3) := by decide +kernel
theorem dX11_makeChange_54 : decode cX11_makeChange 54 = .ok (.aload_n 0, 1) := by decide +kernel
theorem dX11_makeChange_55 : decode cX11_makeChange 55 = .ok (.getfield 28, 3) := by decide +kernel
theorem dX11_makeChange_58 : decode cX11_makeChange 58 = .ok (.iload_n 2, 1) := by decide +kernel
theorem dX11_makeChange_59 : decode cX11_makeChange 59 = .ok (.invokevirtual 370, 3) := by decide +kernel
theorem dX11_makeChange_62 : decode cX11_makeChange 62 = .ok (.ireturn, 1) := by decide +kernel
theorem dX11_makeChange_63 : decode cX11_makeChange 63 = .ok (.aload_n 0, 1) := by decide +kernel
theorem dX11_makeChange_64 : decode cX11_makeChange 64 = .ok (.aload_n 0, 1) := by decide +kernel
theorem dX11_makeChange_65 : decode cX11_makeChange 65 = .ok (.getfield 28, 3) := by decide +kernel
theorem dX11_makeChange_68 : decode cX11_makeChange 68 = .ok (.iload_n 3, 1) := by decide +kernel
theorem dX11_makeChange_69 : decode cX11_makeChange 69 = .ok (.ldc_w 408, 3) := by decide +kernel
theorem dX11_makeChange_72 : decode cX11_makeChange 72 = .ok (.invokevirtual 260, 3) := by decide +kernel
theorem dX11_makeChange_75 : decode cX11_makeChange 75 = .ok (.aload_n 0, 1) := by decide +kernel
theorem dX11_makeChange_76 : decode cX11_makeChange 76 = .ok (.getfield 82, 3) := by decide +kernel
theorem dX11_makeChange_79 : decode cX11_makeChange 79 = .ok (.invokevirtual 409, 3) := by decide +kernel
theorem dX11_makeChange_82 : decode cX11_makeChange 82 = .ok (.istore 4, 2) := by decide +kernel
theorem dX11_makeChange_84 : decode cX11_makeChange 84 = .ok (.aload_n 0, 1) := by decide +kernel
theorem dX11_makeChange_85 : decode cX11_makeChange 85 = .ok (.aload_n 0, 1) := by decide +kernel
theorem dX11_makeChange_86 : decode cX11_makeChange 86 = .ok (.getfield 28, 3) := by decide +kernel
theorem dX11_makeChange_89 : decode cX11_makeChange 89 = .ok (.iload_n 3, 1) := by decide +kernel
theorem dX11_makeChange_90 : decode cX11_makeChange 90 = .ok (.ldc_w 413, 3) := by decide +kernel
theorem dX11_makeChange_93 : decode cX11_makeChange 93 = .ok (.invokevirtual 260, 3) := by decide +kernel
theorem dX11_makeChange_96 : decode cX11_makeChange 96 = .ok (.aload_n 0, 1) := by decide +kernel
theorem dX11_makeChange_97 : decode cX11_makeChange 97 = .ok (.getfield 82, 3) := by decide +kernel
theorem dX11_makeChange_100 : decode cX11_makeChange 100 = .ok (.invokevirtual 409, 3) := by decide +kernel
theorem dX11_makeChange_103 : decode cX11_makeChange 103 = .ok (.istore 5, 2) := by decide +kernel
theorem dX11_makeChange_105 : decode cX11_makeChange 105 = .ok (.iload 4, 2) := by decide +kernel
theorem dX11_makeChange_107 : decode cX11_makeChange 107 = .ok (.ifCond .lt 33, 3) := by decide +kernel
theorem dX11_makeChange_110 : decode cX11_makeChange 110 = .ok (.iload 5, 2) := by decide +kernel
theorem dX11_makeChange_112 : decode cX11_makeChange 112 = .ok (.iload 4, 2) := by decide +kernel
theorem dX11_makeChange_114 : decode cX11_makeChange 114 = .ok (.if_icmp .lt 26, 3) := by decide +kernel
theorem dX11_makeChange_117 : decode cX11_makeChange 117 = .ok (.aload_n 0, 1) := by decide +kernel
theorem dX11_makeChange_118 : decode cX11_makeChange 118 = .ok (.getfield 82, 3) := by decide +kernel
theorem dX11_makeChange_121 : decode cX11_makeChange 121 = .ok (.iload 4, 2) := by decide +kernel
theorem dX11_makeChange_123 : decode cX11_makeChange 123 = .ok (.iload 5, 2) := by decide +kernel
theorem dX11_makeChange_125 : decode cX11_makeChange 125 = .ok (.aload_n 0, 1) := by decide +kernel
theorem dX11_makeChange_126 : decode cX11_makeChange 126 = .ok (.getfield 28, 3) := by decide +kernel
theorem dX11_makeChange_129 : decode cX11_makeChange 129 = .ok (.iload_n 2, 1) := by decide +kernel
theorem dX11_makeChange_130 : decode cX11_makeChange 130 = .ok (.invokevirtual 370, 3) := by decide +kernel
theorem dX11_makeChange_133 : decode cX11_makeChange 133 = .ok (.ifCond .eq 7, 3) := by decide +kernel
theorem dX11_makeChange_136 : decode cX11_makeChange 136 = .ok (.iconst 1, 1) := by decide +kernel
theorem dX11_makeChange_137 : decode cX11_makeChange 137 = .ok (.goto 4, 3) := by decide +kernel
theorem dX11_makeChange_140 : decode cX11_makeChange 140 = .ok (.iconst 0, 1) := by decide +kernel
theorem dX11_makeChange_141 : decode cX11_makeChange 141 = .ok (.ireturn, 1) := by decide +kernel
def EX11_placeToldU : List (Nat × Nat) := []
def EX11_makeChangeU : List (Nat × Nat) := [(3, 3), (173, 0)]
set_option maxHeartbeats 4000000 in
set_option maxRecDepth 20000 in
theorem uX11_placeToldU (l : Launch) (dC : Nat → ClassId) (dI : Nat → Nat → Nat) (ca : Nat → ClassId) (base : Nat) (B : jF) (hB : jBok B) (hAp : jAp (dC, dI)) (hB3 : ∀ n G a H, B 3 n G a H ↔ jOb (dC, dI) 3 17 (F3 n G) a H) (hB6 : ∀ n G a H, B 6 n G a H ↔ jOb (dC, dI) 6 12 (F6 n G) a H) (hB13 : ∀ n G a H, B 13 n G a H ↔ jOb (dC, dI) 13 19 (F13 n G) a H) (hB140 : ∀ n G a H, B 140 n G a H ↔ jAr (dC, dI) (ca 1) (fun j z => True) n a H) (hB141 : ∀ n G a H, B 141 n G a H ↔ jAr (dC, dI) (ca 1) (fun j z => True) n a H) (hB142 : ∀ n G a H, B 142 n G a H ↔ jAr (dC, dI) (ca 1) (fun j z => True) n a H) (hB143 : ∀ n G a H, B 143 n G a H ↔ jAr (dC, dI) (ca 1) (fun j z => True) n a H) (hB144 : ∀ n G a H, B 144 n G a H ↔ jAr (dC, dI) (ca 1) (fun j z => 0 ≤ z.toInt ∧ z.toInt ≤ 3000) n a H) (hB145 : ∀ n G a H, B 145 n G a H ↔ jAr (dC, dI) (ca 1) (fun j z => True) n a H) (hB146 : ∀ n G a H, B 146 n G a H ↔ jAr (dC, dI) (ca 1) (fun j z => True) n a H) (hB173 : ∀ n G a H, B 173 n G a H ↔ jAr (dC, dI) (ca 1) (fun j z => True) n a H) (G0 : jT) (H0 : Heap) (r0 : Nat) (a1 : Int32) (r2 : Nat) (n2 : Nat) (js : Nat) (pv : Int32) (pu : Int32) (wk : Nat) (wi : Nat) (wz : Nat) (jnx : Nat) (jkf : Nat) (jks : Nat) (jun : Nat) (pl : Int32) (tx_ : Nat) (T9 : Nat → Int → Int) (fk : Nat → Int32) (fi : Nat → Int32) (fz : Nat → Int32) (fn : Nat → Int32) (fa : Nat → Int32) (fs : Nat → Int32) (fu : Nat → Int32) (ft : Nat → Int32) : Met l yX11_placeTold (jw yX11_placeTold cX11_placeTold 5 (some .int)) ({ frames := 6, cells := 0, slots := 0, locals := 190 }) (va_Pc [.ref r0, .int a1, .ref r2] (fun U => U.heap = H0 ∧ jX B base G0 [] H0 ∧ jG dC dI ca base U ∧ G0 r0 = some (13, 0) ∧ G0 r2 = some (3, n2) ∧ G0 js = some (6, 0) ∧ G0 wk = some (140, 1502) ∧ G0 wi = some (141, 1502) ∧ G0 wz = some (142, 1502) ∧ G0 jnx = some (143, 1502) ∧ G0 jkf = some (144, 1502) ∧ G0 jks = some (145, 1502) ∧ G0 jun = some (146, 3000) ∧ G0 tx_ = some (173, 1500) ∧ jP (dC, dI) G0 H0 [(r0, 13, 2, .ref js), (js, 6, 7, .int pv), (js, 6, 8, .int pu), (js, 6, 0, .ref wk), (js, 6, 1, .ref wi), (js, 6, 2, .ref wz), (js, 6, 3, .ref jnx), (js, 6, 4, .ref jkf), (js, 6, 5, .ref jks), (js, 6, 6, .ref jun), (r2, 3, 3, .int pl), (r2, 3, 2, .ref tx_)] ∧ jMc (dC, dI) G0 H0 [(wk, 140, 1502, ca 1, fk), (wi, 141, 1502, ca 1, fi), (wz, 142, 1502, ca 1, fz), (jnx, 143, 1502, ca 1, fn), (jkf, 144, 1502, ca 1, fa), (jks, 145, 1502, ca 1, fs), (jun, 146, 3000, ca 1, fu), (tx_, 173, 1500, ca 1, ft)] ∧ 0 ≤ pv.toInt ∧ pv.toInt ≤ 1502 ∧ 0 ≤ pu.toInt ∧ pu.toInt ≤ 3000 ∧ jjTC T9 pv.toInt pu.toInt fk fi fz fn fa fs fu ∧ jqR fk fi fz fa fs pv.toInt pu.toInt ∧ jjCo T9 0 pv.toInt ∧ 0 ≤ pl.toInt ∧ pl.toInt ≤ 1500)) (va_Qi (S := Unit) (fun r u => (-1 ≤ r.toInt ∧ r.toInt ≤ 1500 ∧ r.toInt = jdT T9 pv.toInt (jSo ft) pl.toInt a1.toInt)) (fun u t => jRt (dC, dI) B base G0 EX11_placeToldU H0 [] t.heap) (jA base)) 0 0 (jA base) := by
  refine Met.ofW (cc := cX11_placeTold) (maxL := 5) (ret := (some .int)) (by decide) rfl ?_
  intro p e s m args below meth c s₁ Bd hml hv
  obtain ⟨rfl, hH0, hX, hG, hg_r0, hg_r2, hg_js, hg_wk, hg_wi, hg_wz, hg_jnx, hg_jkf, hg_jks, hg_jun, hg_tx_, hP0, hM0, hp0, hp1, hp2, hp3, hp4, hp5, hp6, hp7, hp8⟩ := hv
  have hK := hG.1
  have hx := Bd.exec
  have hb := Bd.bytes
  have hr := Bd.returns
  have hts := atoms_spec (ws := (jw yX11_placeTold cX11_placeTold 5 (some .int))) Bd.pre
  have htw : ∀ w ∈ jWl, w.before _ s = true := fun w h => hts w (List.mem_cons_of_mem _ h)
  have hown : s.vm.findClass RX11 = some m.cls := findClass_of_methodNamed Bd.named
  have hlocks := Bd.notSynchronized
  obtain ⟨Q, hQ⟩ : ∃ Q, Q = MQ below (va_Qi (S := Unit) (fun r u => (-1 ≤ r.toInt ∧ r.toInt ≤ 1500 ∧ r.toInt = jdT T9 pv.toInt (jSo ft) pl.toInt a1.toInt)) (fun u t => jRt (dC, dI) B base G0 EX11_placeToldU H0 [] t.heap) (jA base)) ([.ref r0, .int a1, .ref r2] : List Value).toArray s 0 0 (jA base) := ⟨_, rfl⟩
  rw [← hQ]
  have hl := lv_entry ([.ref r0, .int a1, .ref r2]) (n := 5) (Nat.le_of_ble_eq_true rfl)
  rw [lg_entry_eq]
  generalize (lg_sl ([.ref r0, .int a1, .ref r2]) ++ List.replicate (5 - (lg_sl ([.ref r0, .int a1, .ref r2])).length) Slot.unset).toArray = ls at hl ⊢
  have hl : lv_has ls 5 [(0, .ref r0), (1, .int a1), (2, .ref r2)] := hl
  generalize hR : (headSpec (jw yX11_placeTold cX11_placeTold 5 (some .int)) ({ frames := 6, cells := 0, slots := 0, locals := 190 })).room = R
  subst hH0
  have hh : jSt (dC, dI) B base G0 G0 EX11_placeToldU s.heap 0 0 [(r0, 13, 2, .ref js), (js, 6, 7, .int pv), (js, 6, 8, .int pu), (js, 6, 0, .ref wk), (js, 6, 1, .ref wi), (js, 6, 2, .ref wz), (js, 6, 3, .ref jnx), (js, 6, 4, .ref jkf), (js, 6, 5, .ref jks), (js, 6, 6, .ref jun), (r2, 3, 3, .int pl), (r2, 3, 2, .ref tx_)] [(wk, 140, 1502, ca 1, fk), (wi, 141, 1502, ca 1, fi), (wz, 142, 1502, ca 1, fz), (jnx, 143, 1502, ca 1, fn), (jkf, 144, 1502, ca 1, fa), (jks, 145, 1502, ca 1, fs), (jun, 146, 3000, ca 1, fu), (tx_, 173, 1500, ca 1, ft)] [] s.heap [] := jSt.start hX hP0 hM0 jIs.nil
  clear hX hP0
  have hkm1 : ((-1) : Int32).toInt = (-1) := by decide
  have hk0 : (0 : Int32).toInt = 0 := by decide
  have hk1 : (1 : Int32).toInt = 1 := by decide
  have hk4 : (4 : Int32).toInt = 4 := by decide
  have hly_13_2 := htw (u_lay RX11 TX11 2) (jWc_wsX110 _ (u_in_lay (by decide)))
  have hlk_28 := (htw (.fieldLink RX11 28 "ProofServer" "json" "LProofServer$Json;") (jWr_1 _ (List.mem_of_getElem? (i := 23) rfl)))
  obtain ⟨str415, rstr415, hstr4150⟩ := hG.strT (o := RX11) (k := 415) (tx := "line") (List.mem_of_getElem? (i := 917) (by decide +kernel))
  have hTstr415 : jStrF base str415 4 (jChT "line") s s.heap := hstr4150.F (by decide +kernel)
  have hstr415 : jStr base str415 4 s s.heap := hTstr415.str
  obtain ⟨str417, rstr417, hstr4170⟩ := hG.strT (o := RX11) (k := 417) (tx := "character") (List.mem_of_getElem? (i := 918) (by decide +kernel))
  have hTstr417 : jStrF base str417 9 (jChT "character") s s.heap := hstr4170.F (by decide +kernel)
  have hstr417 : jStr base str417 9 s s.heap := hTstr417.str
  have hrg_a1 := jb_rng a1
  refine lv_aload_n hx hb dX11_placeTold_0 rfl (lv_at hl 0 rfl) ?_
  refine j7_read hx hb hown hK (C := RX11) (T := TX11) (N := 19) rfl hly_13_2 hlk_28 (hh.at 0 rfl) dX11_placeTold_1 ?_
  refine lv_iload_n hx hb dX11_placeTold_4 rfl (lv_at hl 1 rfl) ?_
  refine j_ldcSw hx hb hown rstr415 dX11_placeTold_5 ?_
  refine va_calli (A0 := jA base) (H0 := s.heap) (va_runV (As := [.int a1, .ref str415]) (rest := []) ⟨hx, hb, hml, hown, hts⟩ (uX4_memberJ l dC dI ca base B hB hAp hB6 hB140 hB141 hB142 hB143 hB144 hB145 hB146 G0 s.heap js a1 str415 4 (jChT "line") pv pu wk wi wz jnx jkf jks jun T9 fk fi fz fn fa fs fu) (cwV 2 hts (jgV (jWr_23 _ (List.mem_of_getElem? (i := 10) rfl)) (jWr_23 _ (List.mem_of_getElem? (i := 11) rfl)) (jWr_23 _ (List.mem_of_getElem? (i := 12) rfl)) (jWr_1 _ (List.mem_of_getElem? (i := 22) rfl)) (jWr_23 _ (List.mem_of_getElem? (i := 13) rfl))) rfl rfl rfl (by decide +kernel) ⟨by rw [← hR]; exact Nat.le_of_ble_eq_true rfl, by rw [← hR]; exact Nat.le_of_ble_eq_true rfl⟩) ⟨fun a U g mk q => by obtain ⟨q0, q1, q2, qK, q10, q11, q12, q13, q14, q15, q16, q17, q18, q19, q20, q21⟩ := q; exact ⟨q0, q1, q2, jG.calling g mk a qK, (q10.moved (Vm.Alike.refl U.vm)), q11, q12, q13, q14, q15, q16, q17, q18, q19, q20, q21⟩, hh.recv (C := RX4) (T := TX4) (N := 12) hB6 rfl (by decide) hg_js hK, fun U hU hW => ⟨rfl, hU, hh.2.1, hG.step hW hU hh.1, (hTstr415.moved hW.alike).kept hh.1.2.1, hg_js, hg_wk, hg_wi, hg_wz, hg_jnx, hg_jkf, hg_jks, hg_jun, (hh.2.2.1.sub (L1 := [(js, 6, 7, .int pv), (js, 6, 8, .int pu), (js, 6, 0, .ref wk), (js, 6, 1, .ref wi), (js, 6, 2, .ref wz), (js, 6, 3, .ref jnx), (js, 6, 4, .ref jkf), (js, 6, 5, .ref jks), (js, 6, 6, .ref jun)]) [1, 2, 3, 4, 5, 6, 7, 8, 9] rfl), (hh.2.2.2.2.2.2.2.1.sub (L1 := [(wk, 140, 1502, ca 1, fk), (wi, 141, 1502, ca 1, fi), (wz, 142, 1502, ca 1, fz), (jnx, 143, 1502, ca 1, fn), (jkf, 144, 1502, ca 1, fa), (jks, 145, 1502, ca 1, fs), (jun, 146, 3000, ca 1, fu)]) [0, 1, 2, 3, 4, 5, 6] rfl), by first | omega | (refine ⟨?_, ?_, ?_, ?_, ?_, ?_, ?_, ?_⟩ <;> (first | omega | rfl | assumption | decide | exact Or.inl rfl | exact Or.inr rfl | (simp only; omega)))⟩⟩ rfl rfl hl.1 rfl (lv_room (Nat.le_of_ble_eq_true rfl)) dX11_placeTold_8 ⟨Nat.zero_le _, Nat.zero_le _⟩) hh.1 (fun q _ h => h) (fun q h => h) (fun r_2 u_1 t_1 H_1 locs_1 ht_1 hvm_1 hr_2 hb_1 hz_1 hk_1 hS_1 => ?_)
  rw [ht_1] at hb_1
  obtain ⟨hb_1, hbF_1⟩ := hb_1
  obtain ⟨hb_11, hb_12, hb_13, hb_14, hb_15⟩ := hb_1
  have hh_1 : jSt (dC, dI) B base G0 G0 EX11_placeToldU s.heap 0 0 [(r0, 13, 2, .ref js), (js, 6, 7, .int pv), (js, 6, 8, .int pu), (js, 6, 0, .ref wk), (js, 6, 1, .ref wi), (js, 6, 2, .ref wz), (js, 6, 3, .ref jnx), (js, 6, 4, .ref jkf), (js, 6, 5, .ref jks), (js, 6, 6, .ref jun), (r2, 3, 3, .int pl), (r2, 3, 2, .ref tx_)] [(wk, 140, 1502, ca 1, fk), (wi, 141, 1502, ca 1, fi), (wz, 142, 1502, ca 1, fz), (jnx, 143, 1502, ca 1, fn), (jkf, 144, 1502, ca 1, fa), (jks, 145, 1502, ca 1, fs), (jun, 146, 3000, ca 1, fu), (tx_, 173, 1500, ca 1, ft)] [] H_1 locs_1 := ((hh.call hb_11 hb_12 hb_13 hb_14 hS_1 rfl (L1 := [(r0, 13, 2, .ref js), (js, 6, 7, .int pv), (js, 6, 8, .int pu), (js, 6, 0, .ref wk), (js, 6, 1, .ref wi), (js, 6, 2, .ref wz), (js, 6, 3, .ref jnx), (js, 6, 4, .ref jkf), (js, 6, 5, .ref jks), (js, 6, 6, .ref jun), (r2, 3, 3, .int pl), (r2, 3, 2, .ref tx_)]) [0, 1, 2, 3, 4, 5, 6, 7, 8, 9, 10, 11] rfl rfl (M1 := [(wk, 140, 1502, ca 1, fk), (wi, 141, 1502, ca 1, fi), (wz, 142, 1502, ca 1, fz), (jnx, 143, 1502, ca 1, fn), (jkf, 144, 1502, ca 1, fa), (jks, 145, 1502, ca 1, fs), (jun, 146, 3000, ca 1, fu), (tx_, 173, 1500, ca 1, ft)]) [0, 1, 2, 3, 4, 5, 6, 7] rfl rfl (I1 := []) [] rfl rfl).more hb_15)
  clear hh ht_1 hvm_1 hz_1 hk_1 hS_1 hb_11 hb_12 hb_13 hb_14 hb_15
  obtain ⟨hr_2_0, hr_2_1, hr_2_2, hr_2_3⟩ := hr_2
  refine lv_istore_n (lv' := [(3, .int r_2), (0, .ref r0), (1, .int a1), (2, .ref r2)]) hx hb dX11_placeTold_11 rfl hl (by decide) rfl (fun ls hl => ?_)
  refine lv_aload_n hx hb dX11_placeTold_12 rfl (lv_at hl 1 rfl) ?_
  refine j7_read hx hb hown hK (C := RX11) (T := TX11) (N := 19) rfl hly_13_2 hlk_28 (hh_1.at 0 rfl) dX11_placeTold_13 ?_
  refine lv_iload_n hx hb dX11_placeTold_16 rfl (lv_at hl 2 rfl) ?_
  refine j_ldcSw hx hb hown rstr417 dX11_placeTold_17 ?_
  refine va_calli (A0 := jA base) (H0 := s.heap) (va_runV (As := [.int a1, .ref str417]) (rest := []) ⟨hx, hb, hml, hown, hts⟩ (uX4_memberJ l dC dI ca base B hB hAp hB6 hB140 hB141 hB142 hB143 hB144 hB145 hB146 G0 H_1 js a1 str417 9 (jChT "character") pv pu wk wi wz jnx jkf jks jun T9 fk fi fz fn fa fs fu) (cwV 2 hts (jgV (jWr_23 _ (List.mem_of_getElem? (i := 10) rfl)) (jWr_23 _ (List.mem_of_getElem? (i := 11) rfl)) (jWr_23 _ (List.mem_of_getElem? (i := 12) rfl)) (jWr_1 _ (List.mem_of_getElem? (i := 22) rfl)) (jWr_23 _ (List.mem_of_getElem? (i := 13) rfl))) rfl rfl rfl (by decide +kernel) ⟨by rw [← hR]; exact Nat.le_of_ble_eq_true rfl, by rw [← hR]; exact Nat.le_of_ble_eq_true rfl⟩) ⟨fun a U g mk q => by obtain ⟨q0, q1, q2, qK, q10, q11, q12, q13, q14, q15, q16, q17, q18, q19, q20, q21⟩ := q; exact ⟨q0, q1, q2, jG.calling g mk a qK, (q10.moved (Vm.Alike.refl U.vm)), q11, q12, q13, q14, q15, q16, q17, q18, q19, q20, q21⟩, hh_1.recv (C := RX4) (T := TX4) (N := 12) hB6 rfl (by decide) hg_js hK, fun U hU hW => ⟨rfl, hU, hh_1.2.1, hG.step hW hU hh_1.1, (hTstr417.moved hW.alike).kept hh_1.1.2.1, hg_js, hg_wk, hg_wi, hg_wz, hg_jnx, hg_jkf, hg_jks, hg_jun, (hh_1.2.2.1.sub (L1 := [(js, 6, 7, .int pv), (js, 6, 8, .int pu), (js, 6, 0, .ref wk), (js, 6, 1, .ref wi), (js, 6, 2, .ref wz), (js, 6, 3, .ref jnx), (js, 6, 4, .ref jkf), (js, 6, 5, .ref jks), (js, 6, 6, .ref jun)]) [1, 2, 3, 4, 5, 6, 7, 8, 9] rfl), (hh_1.2.2.2.2.2.2.2.1.sub (L1 := [(wk, 140, 1502, ca 1, fk), (wi, 141, 1502, ca 1, fi), (wz, 142, 1502, ca 1, fz), (jnx, 143, 1502, ca 1, fn), (jkf, 144, 1502, ca 1, fa), (jks, 145, 1502, ca 1, fs), (jun, 146, 3000, ca 1, fu)]) [0, 1, 2, 3, 4, 5, 6] rfl), by first | omega | (refine ⟨?_, ?_, ?_, ?_, ?_, ?_, ?_, ?_⟩ <;> (first | omega | rfl | assumption | decide | exact Or.inl rfl | exact Or.inr rfl | (simp only; omega)))⟩⟩ rfl rfl hl.1 rfl (lv_room (Nat.le_of_ble_eq_true rfl)) dX11_placeTold_20 ⟨Nat.zero_le _, Nat.zero_le _⟩) hh_1.1 (fun q _ h => h) (fun q h => h) (fun r_4 u_3 t_3 H_3 locs_3 ht_3 hvm_3 hr_4 hb_3 hz_3 hk_3 hS_3 => ?_)
  rw [ht_3] at hb_3
  obtain ⟨hb_3, hbF_3⟩ := hb_3
  obtain ⟨hb_31, hb_32, hb_33, hb_34, hb_35⟩ := hb_3
  have hh_3 : jSt (dC, dI) B base G0 G0 EX11_placeToldU s.heap 0 0 [(r0, 13, 2, .ref js), (js, 6, 7, .int pv), (js, 6, 8, .int pu), (js, 6, 0, .ref wk), (js, 6, 1, .ref wi), (js, 6, 2, .ref wz), (js, 6, 3, .ref jnx), (js, 6, 4, .ref jkf), (js, 6, 5, .ref jks), (js, 6, 6, .ref jun), (r2, 3, 3, .int pl), (r2, 3, 2, .ref tx_)] [(wk, 140, 1502, ca 1, fk), (wi, 141, 1502, ca 1, fi), (wz, 142, 1502, ca 1, fz), (jnx, 143, 1502, ca 1, fn), (jkf, 144, 1502, ca 1, fa), (jks, 145, 1502, ca 1, fs), (jun, 146, 3000, ca 1, fu), (tx_, 173, 1500, ca 1, ft)] [] H_3 locs_3 := ((hh_1.call hb_31 hb_32 hb_33 hb_34 hS_3 rfl (L1 := [(r0, 13, 2, .ref js), (js, 6, 7, .int pv), (js, 6, 8, .int pu), (js, 6, 0, .ref wk), (js, 6, 1, .ref wi), (js, 6, 2, .ref wz), (js, 6, 3, .ref jnx), (js, 6, 4, .ref jkf), (js, 6, 5, .ref jks), (js, 6, 6, .ref jun), (r2, 3, 3, .int pl), (r2, 3, 2, .ref tx_)]) [0, 1, 2, 3, 4, 5, 6, 7, 8, 9, 10, 11] rfl rfl (M1 := [(wk, 140, 1502, ca 1, fk), (wi, 141, 1502, ca 1, fi), (wz, 142, 1502, ca 1, fz), (jnx, 143, 1502, ca 1, fn), (jkf, 144, 1502, ca 1, fa), (jks, 145, 1502, ca 1, fs), (jun, 146, 3000, ca 1, fu), (tx_, 173, 1500, ca 1, ft)]) [0, 1, 2, 3, 4, 5, 6, 7] rfl rfl (I1 := []) [] rfl rfl).more hb_35)
  clear hh_1 ht_3 hvm_3 hz_3 hk_3 hS_3 hb_31 hb_32 hb_33 hb_34 hb_35
  obtain ⟨hr_4_0, hr_4_1, hr_4_2, hr_4_3⟩ := hr_4
  refine lv_istore (lv' := [(4, .int r_4), (3, .int r_2), (0, .ref r0), (1, .int a1), (2, .ref r2)]) hx hb dX11_placeTold_23 hl (by decide) rfl (fun ls hl => ?_)
  refine lv_aload_n hx hb dX11_placeTold_25 rfl (lv_at hl 2 rfl) ?_
  refine j7_read hx hb hown hK (C := RX11) (T := TX11) (N := 19) rfl hly_13_2 hlk_28 (hh_3.at 0 rfl) dX11_placeTold_26 ?_
  refine lv_iload_n hx hb dX11_placeTold_29 rfl (lv_at hl 1 rfl) ?_
  refine va_calli (A0 := jA base) (H0 := s.heap) (va_runV (As := [.int r_2]) (rest := []) ⟨hx, hb, hml, hown, hts⟩ (uX4_kindOfJ l dC dI ca base B hB hAp hB6 hB140 G0 H_3 js r_2 pv pu wk wi wz jnx jkf jks jun T9 fk fi fz fn fa fs fu) (cwV 1 hts (jgV (jWr_27 _ (List.mem_of_getElem? (i := 5) rfl)) (jWr_23 _ (List.mem_of_getElem? (i := 15) rfl)) (jWr_23 _ (List.mem_of_getElem? (i := 16) rfl)) (jWr_1 _ (List.mem_of_getElem? (i := 22) rfl)) (jWr_23 _ (List.mem_of_getElem? (i := 17) rfl))) rfl rfl rfl (by decide +kernel) ⟨by rw [← hR]; exact Nat.le_of_ble_eq_true rfl, by rw [← hR]; exact Nat.le_of_ble_eq_true rfl⟩) ⟨fun a U g mk q => by obtain ⟨q0, q1, q2, qK, q10, q11, q12, q13, q14, q15, q16, q17, q18, q19, q20⟩ := q; exact ⟨q0, q1, q2, jG.calling g mk a qK, q10, q11, q12, q13, q14, q15, q16, q17, q18, q19, q20⟩, hh_3.recv (C := RX4) (T := TX4) (N := 12) hB6 rfl (by decide) hg_js hK, fun U hU hW => ⟨rfl, hU, hh_3.2.1, hG.step hW hU hh_3.1, hg_js, hg_wk, hg_wi, hg_wz, hg_jnx, hg_jkf, hg_jks, hg_jun, (hh_3.2.2.1.sub (L1 := [(js, 6, 7, .int pv), (js, 6, 8, .int pu), (js, 6, 0, .ref wk), (js, 6, 1, .ref wi), (js, 6, 2, .ref wz), (js, 6, 3, .ref jnx), (js, 6, 4, .ref jkf), (js, 6, 5, .ref jks), (js, 6, 6, .ref jun)]) [1, 2, 3, 4, 5, 6, 7, 8, 9] rfl), (hh_3.2.2.2.2.2.2.2.1.sub (L1 := [(wk, 140, 1502, ca 1, fk), (wi, 141, 1502, ca 1, fi), (wz, 142, 1502, ca 1, fz), (jnx, 143, 1502, ca 1, fn), (jkf, 144, 1502, ca 1, fa), (jks, 145, 1502, ca 1, fs), (jun, 146, 3000, ca 1, fu)]) [0, 1, 2, 3, 4, 5, 6] rfl), by first | omega | (refine ⟨?_, ?_, ?_, ?_, ?_⟩ <;> (first | omega | rfl | assumption | decide | exact Or.inl rfl | exact Or.inr rfl | (simp only; omega)))⟩⟩ rfl rfl hl.1 rfl (lv_room (Nat.le_of_ble_eq_true rfl)) dX11_placeTold_30 ⟨Nat.zero_le _, Nat.zero_le _⟩) hh_3.1 (fun q _ h => h) (fun q h => h) (fun r_6 u_5 t_5 H_5 locs_5 ht_5 hvm_5 hr_6 hb_5 hz_5 hk_5 hS_5 => ?_)
  rw [ht_5] at hb_5
  obtain ⟨hb_5, hbF_5⟩ := hb_5
  obtain ⟨hb_51, hb_52, hb_53, hb_54, hb_55⟩ := hb_5
  have hh_5 : jSt (dC, dI) B base G0 G0 EX11_placeToldU s.heap 0 0 [(r0, 13, 2, .ref js), (js, 6, 7, .int pv), (js, 6, 8, .int pu), (js, 6, 0, .ref wk), (js, 6, 1, .ref wi), (js, 6, 2, .ref wz), (js, 6, 3, .ref jnx), (js, 6, 4, .ref jkf), (js, 6, 5, .ref jks), (js, 6, 6, .ref jun), (r2, 3, 3, .int pl), (r2, 3, 2, .ref tx_)] [(wk, 140, 1502, ca 1, fk), (wi, 141, 1502, ca 1, fi), (wz, 142, 1502, ca 1, fz), (jnx, 143, 1502, ca 1, fn), (jkf, 144, 1502, ca 1, fa), (jks, 145, 1502, ca 1, fs), (jun, 146, 3000, ca 1, fu), (tx_, 173, 1500, ca 1, ft)] [] H_5 locs_5 := ((hh_3.call hb_51 hb_52 hb_53 hb_54 hS_5 rfl (L1 := [(r0, 13, 2, .ref js), (js, 6, 7, .int pv), (js, 6, 8, .int pu), (js, 6, 0, .ref wk), (js, 6, 1, .ref wi), (js, 6, 2, .ref wz), (js, 6, 3, .ref jnx), (js, 6, 4, .ref jkf), (js, 6, 5, .ref jks), (js, 6, 6, .ref jun), (r2, 3, 3, .int pl), (r2, 3, 2, .ref tx_)]) [0, 1, 2, 3, 4, 5, 6, 7, 8, 9, 10, 11] rfl rfl (M1 := [(wk, 140, 1502, ca 1, fk), (wi, 141, 1502, ca 1, fi), (wz, 142, 1502, ca 1, fz), (jnx, 143, 1502, ca 1, fn), (jkf, 144, 1502, ca 1, fa), (jks, 145, 1502, ca 1, fs), (jun, 146, 3000, ca 1, fu), (tx_, 173, 1500, ca 1, ft)]) [0, 1, 2, 3, 4, 5, 6, 7] rfl rfl (I1 := []) [] rfl rfl).more hb_55)
  clear hh_3 ht_5 hvm_5 hz_5 hk_5 hS_5 hb_51 hb_52 hb_53 hb_54 hb_55
  obtain ⟨hr_6_0, hr_6_1⟩ := hr_6
  refine lv_iconst (v := 4) hx hb dX11_placeTold_33 (by decide) ?_
  refine lv_icmp_ne (tgt := 50) hx hb dX11_placeTold_34 (by decide) (fun c_7 => ?_) (fun c_7 => ?_)
  · skip
    have c_7' : r_6.toInt ≠ 4 := jb_ne (rfl) ((by decide)) c_7
    try clear hr_6_0
    refine lv_iconst (v := (-1)) hx hb dX11_placeTold_50 (by decide) ?_
    rw [hQ]
    exact W.iret (v := (-1)) hx hb hr (fun t ht hW => ⟨⟨(-1), (), rfl, ⟨by omega, by omega, hkm1.trans (jdT.n hr_2_3 hr_4_3 (Or.inl (by rw [← hr_6_1]; omega))).symm⟩, hh_5.rt (M1 := []) [] rfl ht⟩, by rw [ht]; try exact hh_5.1.1, fun q h9 hq => by rw [ht]; try exact hh_5.1.2.1 q h9 hq⟩) hh_5.1.2.2 dX11_placeTold_51
  · skip
    have c_7' : r_6.toInt = 4 := jb_ne_n (rfl) ((by decide)) c_7
    first | (have hr_2_2q := hr_2_2.resolve_left (by omega); clear hr_2_2) | (have hr_2_2q := hr_2_2.resolve_right (by omega); clear hr_2_2) | skip
    first | (have hr_6_0q := hr_6_0.resolve_left (by omega); clear hr_6_0) | (have hr_6_0q := hr_6_0.resolve_right (by omega); clear hr_6_0) | try clear hr_6_0
    refine lv_aload_n hx hb dX11_placeTold_37 rfl (lv_at hl 2 rfl) ?_
    refine j7_read hx hb hown hK (C := RX11) (T := TX11) (N := 19) rfl hly_13_2 hlk_28 (hh_5.at 0 rfl) dX11_placeTold_38 ?_
    refine lv_iload hx hb dX11_placeTold_41 (lv_at hl 0 rfl) ?_
    refine va_calli (A0 := jA base) (H0 := s.heap) (va_runV (As := [.int r_4]) (rest := []) ⟨hx, hb, hml, hown, hts⟩ (uX4_kindOfJ l dC dI ca base B hB hAp hB6 hB140 G0 H_5 js r_4 pv pu wk wi wz jnx jkf jks jun T9 fk fi fz fn fa fs fu) (cwV 1 hts (jgV (jWr_27 _ (List.mem_of_getElem? (i := 5) rfl)) (jWr_23 _ (List.mem_of_getElem? (i := 15) rfl)) (jWr_23 _ (List.mem_of_getElem? (i := 16) rfl)) (jWr_1 _ (List.mem_of_getElem? (i := 22) rfl)) (jWr_23 _ (List.mem_of_getElem? (i := 17) rfl))) rfl rfl rfl (by decide +kernel) ⟨by rw [← hR]; exact Nat.le_of_ble_eq_true rfl, by rw [← hR]; exact Nat.le_of_ble_eq_true rfl⟩) ⟨fun a U g mk q => by obtain ⟨q0, q1, q2, qK, q10, q11, q12, q13, q14, q15, q16, q17, q18, q19, q20⟩ := q; exact ⟨q0, q1, q2, jG.calling g mk a qK, q10, q11, q12, q13, q14, q15, q16, q17, q18, q19, q20⟩, hh_5.recv (C := RX4) (T := TX4) (N := 12) hB6 rfl (by decide) hg_js hK, fun U hU hW => ⟨rfl, hU, hh_5.2.1, hG.step hW hU hh_5.1, hg_js, hg_wk, hg_wi, hg_wz, hg_jnx, hg_jkf, hg_jks, hg_jun, (hh_5.2.2.1.sub (L1 := [(js, 6, 7, .int pv), (js, 6, 8, .int pu), (js, 6, 0, .ref wk), (js, 6, 1, .ref wi), (js, 6, 2, .ref wz), (js, 6, 3, .ref jnx), (js, 6, 4, .ref jkf), (js, 6, 5, .ref jks), (js, 6, 6, .ref jun)]) [1, 2, 3, 4, 5, 6, 7, 8, 9] rfl), (hh_5.2.2.2.2.2.2.2.1.sub (L1 := [(wk, 140, 1502, ca 1, fk), (wi, 141, 1502, ca 1, fi), (wz, 142, 1502, ca 1, fz), (jnx, 143, 1502, ca 1, fn), (jkf, 144, 1502, ca 1, fa), (jks, 145, 1502, ca 1, fs), (jun, 146, 3000, ca 1, fu)]) [0, 1, 2, 3, 4, 5, 6] rfl), by first | omega | (refine ⟨?_, ?_, ?_, ?_, ?_⟩ <;> (first | omega | rfl | assumption | decide | exact Or.inl rfl | exact Or.inr rfl | (simp only; omega)))⟩⟩ rfl rfl hl.1 rfl (lv_room (Nat.le_of_ble_eq_true rfl)) dX11_placeTold_43 ⟨Nat.zero_le _, Nat.zero_le _⟩) hh_5.1 (fun q _ h => h) (fun q h => h) (fun r_9 u_8 t_8 H_8 locs_8 ht_8 hvm_8 hr_9 hb_8 hz_8 hk_8 hS_8 => ?_)
    rw [ht_8] at hb_8
    obtain ⟨hb_8, hbF_8⟩ := hb_8
    obtain ⟨hb_81, hb_82, hb_83, hb_84, hb_85⟩ := hb_8
    have hh_8 : jSt (dC, dI) B base G0 G0 EX11_placeToldU s.heap 0 0 [(r0, 13, 2, .ref js), (js, 6, 7, .int pv), (js, 6, 8, .int pu), (js, 6, 0, .ref wk), (js, 6, 1, .ref wi), (js, 6, 2, .ref wz), (js, 6, 3, .ref jnx), (js, 6, 4, .ref jkf), (js, 6, 5, .ref jks), (js, 6, 6, .ref jun), (r2, 3, 3, .int pl), (r2, 3, 2, .ref tx_)] [(wk, 140, 1502, ca 1, fk), (wi, 141, 1502, ca 1, fi), (wz, 142, 1502, ca 1, fz), (jnx, 143, 1502, ca 1, fn), (jkf, 144, 1502, ca 1, fa), (jks, 145, 1502, ca 1, fs), (jun, 146, 3000, ca 1, fu), (tx_, 173, 1500, ca 1, ft)] [] H_8 locs_8 := ((hh_5.call hb_81 hb_82 hb_83 hb_84 hS_8 rfl (L1 := [(r0, 13, 2, .ref js), (js, 6, 7, .int pv), (js, 6, 8, .int pu), (js, 6, 0, .ref wk), (js, 6, 1, .ref wi), (js, 6, 2, .ref wz), (js, 6, 3, .ref jnx), (js, 6, 4, .ref jkf), (js, 6, 5, .ref jks), (js, 6, 6, .ref jun), (r2, 3, 3, .int pl), (r2, 3, 2, .ref tx_)]) [0, 1, 2, 3, 4, 5, 6, 7, 8, 9, 10, 11] rfl rfl (M1 := [(wk, 140, 1502, ca 1, fk), (wi, 141, 1502, ca 1, fi), (wz, 142, 1502, ca 1, fz), (jnx, 143, 1502, ca 1, fn), (jkf, 144, 1502, ca 1, fa), (jks, 145, 1502, ca 1, fs), (jun, 146, 3000, ca 1, fu), (tx_, 173, 1500, ca 1, ft)]) [0, 1, 2, 3, 4, 5, 6, 7] rfl rfl (I1 := []) [] rfl rfl).more hb_85)
    clear hh_5 ht_8 hvm_8 hz_8 hk_8 hS_8 hb_81 hb_82 hb_83 hb_84 hb_85
    obtain ⟨hr_9_0, hr_9_1⟩ := hr_9
    refine lv_iconst (v := 4) hx hb dX11_placeTold_46 (by decide) ?_
    refine lv_icmp_eq (tgt := 52) hx hb dX11_placeTold_47 (by decide) (fun c_10 => ?_) (fun c_10 => ?_)
    · skip
      have c_10' : r_9.toInt = 4 := jb_eq (rfl) ((by decide)) c_10
      first | (have hr_4_2q := hr_4_2.resolve_left (by omega); clear hr_4_2) | (have hr_4_2q := hr_4_2.resolve_right (by omega); clear hr_4_2) | skip
      first | (have hr_9_0q := hr_9_0.resolve_left (by omega); clear hr_9_0) | (have hr_9_0q := hr_9_0.resolve_right (by omega); clear hr_9_0) | try clear hr_9_0
      refine lv_aload_n hx hb dX11_placeTold_52 rfl (lv_at hl 4 rfl) ?_
      refine lv_aload_n hx hb dX11_placeTold_53 rfl (lv_at hl 2 rfl) ?_
      refine j7_read hx hb hown hK (C := RX11) (T := TX11) (N := 19) rfl hly_13_2 hlk_28 (hh_8.at 0 rfl) dX11_placeTold_54 ?_
      refine lv_iload_n hx hb dX11_placeTold_57 rfl (lv_at hl 1 rfl) ?_
      refine va_calli (A0 := jA base) (H0 := s.heap) (va_runV (As := [.int r_2]) (rest := [.ref r2]) ⟨hx, hb, hml, hown, hts⟩ (uX4_valueOfJ l dC dI ca base B hB hAp hB6 hB141 G0 H_8 js r_2 pv pu wk wi wz jnx jkf jks jun T9 fk fi fz fn fa fs fu) (cwV 1 hts (jgV (jWr_29 _ (List.mem_of_getElem? (i := 0) rfl)) (jWr_24 _ (List.mem_of_getElem? (i := 12) rfl)) (jWr_24 _ (List.mem_of_getElem? (i := 13) rfl)) (jWr_1 _ (List.mem_of_getElem? (i := 22) rfl)) (jWr_24 _ (List.mem_of_getElem? (i := 14) rfl))) rfl rfl rfl (by decide +kernel) ⟨by rw [← hR]; exact Nat.le_of_ble_eq_true rfl, by rw [← hR]; exact Nat.le_of_ble_eq_true rfl⟩) ⟨fun a U g mk q => by obtain ⟨q0, q1, q2, qK, q10, q11, q12, q13, q14, q15, q16, q17, q18, q19, q20⟩ := q; exact ⟨q0, q1, q2, jG.calling g mk a qK, q10, q11, q12, q13, q14, q15, q16, q17, q18, q19, q20⟩, hh_8.recv (C := RX4) (T := TX4) (N := 12) hB6 rfl (by decide) hg_js hK, fun U hU hW => ⟨rfl, hU, hh_8.2.1, hG.step hW hU hh_8.1, hg_js, hg_wk, hg_wi, hg_wz, hg_jnx, hg_jkf, hg_jks, hg_jun, (hh_8.2.2.1.sub (L1 := [(js, 6, 7, .int pv), (js, 6, 8, .int pu), (js, 6, 0, .ref wk), (js, 6, 1, .ref wi), (js, 6, 2, .ref wz), (js, 6, 3, .ref jnx), (js, 6, 4, .ref jkf), (js, 6, 5, .ref jks), (js, 6, 6, .ref jun)]) [1, 2, 3, 4, 5, 6, 7, 8, 9] rfl), (hh_8.2.2.2.2.2.2.2.1.sub (L1 := [(wk, 140, 1502, ca 1, fk), (wi, 141, 1502, ca 1, fi), (wz, 142, 1502, ca 1, fz), (jnx, 143, 1502, ca 1, fn), (jkf, 144, 1502, ca 1, fa), (jks, 145, 1502, ca 1, fs), (jun, 146, 3000, ca 1, fu)]) [0, 1, 2, 3, 4, 5, 6] rfl), by first | omega | (refine ⟨?_, ?_, ?_, ?_, ?_⟩ <;> (first | omega | rfl | assumption | decide | exact Or.inl rfl | exact Or.inr rfl | (simp only; omega)))⟩⟩ rfl rfl hl.1 rfl (lv_room (Nat.le_of_ble_eq_true rfl)) dX11_placeTold_58 ⟨Nat.zero_le _, Nat.zero_le _⟩) hh_8.1 (fun q _ h => h) (fun q h => h) (fun r_12 u_11 t_11 H_11 locs_11 ht_11 hvm_11 hr_12 hb_11 hz_11 hk_11 hS_11 => ?_)
      rw [ht_11] at hb_11
      obtain ⟨hb_11, hbF_11⟩ := hb_11
      obtain ⟨hb_111, hb_112, hb_113, hb_114, hb_115⟩ := hb_11
      have hh_11 : jSt (dC, dI) B base G0 G0 EX11_placeToldU s.heap 0 0 [(r0, 13, 2, .ref js), (js, 6, 7, .int pv), (js, 6, 8, .int pu), (js, 6, 0, .ref wk), (js, 6, 1, .ref wi), (js, 6, 2, .ref wz), (js, 6, 3, .ref jnx), (js, 6, 4, .ref jkf), (js, 6, 5, .ref jks), (js, 6, 6, .ref jun), (r2, 3, 3, .int pl), (r2, 3, 2, .ref tx_)] [(wk, 140, 1502, ca 1, fk), (wi, 141, 1502, ca 1, fi), (wz, 142, 1502, ca 1, fz), (jnx, 143, 1502, ca 1, fn), (jkf, 144, 1502, ca 1, fa), (jks, 145, 1502, ca 1, fs), (jun, 146, 3000, ca 1, fu), (tx_, 173, 1500, ca 1, ft)] [] H_11 locs_11 := ((hh_8.call hb_111 hb_112 hb_113 hb_114 hS_11 rfl (L1 := [(r0, 13, 2, .ref js), (js, 6, 7, .int pv), (js, 6, 8, .int pu), (js, 6, 0, .ref wk), (js, 6, 1, .ref wi), (js, 6, 2, .ref wz), (js, 6, 3, .ref jnx), (js, 6, 4, .ref jkf), (js, 6, 5, .ref jks), (js, 6, 6, .ref jun), (r2, 3, 3, .int pl), (r2, 3, 2, .ref tx_)]) [0, 1, 2, 3, 4, 5, 6, 7, 8, 9, 10, 11] rfl rfl (M1 := [(wk, 140, 1502, ca 1, fk), (wi, 141, 1502, ca 1, fi), (wz, 142, 1502, ca 1, fz), (jnx, 143, 1502, ca 1, fn), (jkf, 144, 1502, ca 1, fa), (jks, 145, 1502, ca 1, fs), (jun, 146, 3000, ca 1, fu), (tx_, 173, 1500, ca 1, ft)]) [0, 1, 2, 3, 4, 5, 6, 7] rfl rfl (I1 := []) [] rfl rfl).more hb_115)
      clear hh_8 ht_11 hvm_11 hz_11 hk_11 hS_11 hb_111 hb_112 hb_113 hb_114 hb_115
      refine lv_aload_n hx hb dX11_placeTold_61 rfl (lv_at hl 2 rfl) ?_
      refine j7_read hx hb hown hK (C := RX11) (T := TX11) (N := 19) rfl hly_13_2 hlk_28 (hh_11.at 0 rfl) dX11_placeTold_62 ?_
      refine lv_iload hx hb dX11_placeTold_65 (lv_at hl 0 rfl) ?_
      refine va_calli (A0 := jA base) (H0 := s.heap) (va_runV (As := [.int r_4]) (rest := [.int r_12, .ref r2]) ⟨hx, hb, hml, hown, hts⟩ (uX4_valueOfJ l dC dI ca base B hB hAp hB6 hB141 G0 H_11 js r_4 pv pu wk wi wz jnx jkf jks jun T9 fk fi fz fn fa fs fu) (cwV 1 hts (jgV (jWr_29 _ (List.mem_of_getElem? (i := 0) rfl)) (jWr_24 _ (List.mem_of_getElem? (i := 12) rfl)) (jWr_24 _ (List.mem_of_getElem? (i := 13) rfl)) (jWr_1 _ (List.mem_of_getElem? (i := 22) rfl)) (jWr_24 _ (List.mem_of_getElem? (i := 14) rfl))) rfl rfl rfl (by decide +kernel) ⟨by rw [← hR]; exact Nat.le_of_ble_eq_true rfl, by rw [← hR]; exact Nat.le_of_ble_eq_true rfl⟩) ⟨fun a U g mk q => by obtain ⟨q0, q1, q2, qK, q10, q11, q12, q13, q14, q15, q16, q17, q18, q19, q20⟩ := q; exact ⟨q0, q1, q2, jG.calling g mk a qK, q10, q11, q12, q13, q14, q15, q16, q17, q18, q19, q20⟩, hh_11.recv (C := RX4) (T := TX4) (N := 12) hB6 rfl (by decide) hg_js hK, fun U hU hW => ⟨rfl, hU, hh_11.2.1, hG.step hW hU hh_11.1, hg_js, hg_wk, hg_wi, hg_wz, hg_jnx, hg_jkf, hg_jks, hg_jun, (hh_11.2.2.1.sub (L1 := [(js, 6, 7, .int pv), (js, 6, 8, .int pu), (js, 6, 0, .ref wk), (js, 6, 1, .ref wi), (js, 6, 2, .ref wz), (js, 6, 3, .ref jnx), (js, 6, 4, .ref jkf), (js, 6, 5, .ref jks), (js, 6, 6, .ref jun)]) [1, 2, 3, 4, 5, 6, 7, 8, 9] rfl), (hh_11.2.2.2.2.2.2.2.1.sub (L1 := [(wk, 140, 1502, ca 1, fk), (wi, 141, 1502, ca 1, fi), (wz, 142, 1502, ca 1, fz), (jnx, 143, 1502, ca 1, fn), (jkf, 144, 1502, ca 1, fa), (jks, 145, 1502, ca 1, fs), (jun, 146, 3000, ca 1, fu)]) [0, 1, 2, 3, 4, 5, 6] rfl), by first | omega | (refine ⟨?_, ?_, ?_, ?_, ?_⟩ <;> (first | omega | rfl | assumption | decide | exact Or.inl rfl | exact Or.inr rfl | (simp only; omega)))⟩⟩ rfl rfl hl.1 rfl (lv_room (Nat.le_of_ble_eq_true rfl)) dX11_placeTold_67 ⟨Nat.zero_le _, Nat.zero_le _⟩) hh_11.1 (fun q _ h => h) (fun q h => h) (fun r_14 u_13 t_13 H_13 locs_13 ht_13 hvm_13 hr_14 hb_13 hz_13 hk_13 hS_13 => ?_)
      rw [ht_13] at hb_13
      obtain ⟨hb_13, hbF_13⟩ := hb_13
      obtain ⟨hb_131, hb_132, hb_133, hb_134, hb_135⟩ := hb_13
      have hh_13 : jSt (dC, dI) B base G0 G0 EX11_placeToldU s.heap 0 0 [(r0, 13, 2, .ref js), (js, 6, 7, .int pv), (js, 6, 8, .int pu), (js, 6, 0, .ref wk), (js, 6, 1, .ref wi), (js, 6, 2, .ref wz), (js, 6, 3, .ref jnx), (js, 6, 4, .ref jkf), (js, 6, 5, .ref jks), (js, 6, 6, .ref jun), (r2, 3, 3, .int pl), (r2, 3, 2, .ref tx_)] [(wk, 140, 1502, ca 1, fk), (wi, 141, 1502, ca 1, fi), (wz, 142, 1502, ca 1, fz), (jnx, 143, 1502, ca 1, fn), (jkf, 144, 1502, ca 1, fa), (jks, 145, 1502, ca 1, fs), (jun, 146, 3000, ca 1, fu), (tx_, 173, 1500, ca 1, ft)] [] H_13 locs_13 := ((hh_11.call hb_131 hb_132 hb_133 hb_134 hS_13 rfl (L1 := [(r0, 13, 2, .ref js), (js, 6, 7, .int pv), (js, 6, 8, .int pu), (js, 6, 0, .ref wk), (js, 6, 1, .ref wi), (js, 6, 2, .ref wz), (js, 6, 3, .ref jnx), (js, 6, 4, .ref jkf), (js, 6, 5, .ref jks), (js, 6, 6, .ref jun), (r2, 3, 3, .int pl), (r2, 3, 2, .ref tx_)]) [0, 1, 2, 3, 4, 5, 6, 7, 8, 9, 10, 11] rfl rfl (M1 := [(wk, 140, 1502, ca 1, fk), (wi, 141, 1502, ca 1, fi), (wz, 142, 1502, ca 1, fz), (jnx, 143, 1502, ca 1, fn), (jkf, 144, 1502, ca 1, fa), (jks, 145, 1502, ca 1, fs), (jun, 146, 3000, ca 1, fu), (tx_, 173, 1500, ca 1, ft)]) [0, 1, 2, 3, 4, 5, 6, 7] rfl rfl (I1 := []) [] rfl rfl).more hb_135)
      clear hh_11 ht_13 hvm_13 hz_13 hk_13 hS_13 hb_131 hb_132 hb_133 hb_134 hb_135
      refine va_calli (A0 := jA base) (H0 := s.heap) (va_runV (As := [.int r_12, .int r_14]) (rest := []) ⟨hx, hb, hml, hown, hts⟩ (uX1_placeOfU l dC dI ca base B hB hAp hB3 hB173 G0 H_13 r2 r_12 r_14 n2 pl tx_ ft) (cwV 2 hts (jgV (jWr_29 _ (List.mem_of_getElem? (i := 1) rfl)) (jWr_29 _ (List.mem_of_getElem? (i := 2) rfl)) (jWr_29 _ (List.mem_of_getElem? (i := 3) rfl)) (jWr_2 _ (List.mem_of_getElem? (i := 21) rfl)) (jWr_29 _ (List.mem_of_getElem? (i := 4) rfl))) rfl rfl rfl (by decide +kernel) ⟨by rw [← hR]; exact Nat.le_of_ble_eq_true rfl, by rw [← hR]; exact Nat.le_of_ble_eq_true rfl⟩) ⟨fun a U g mk q => by obtain ⟨q0, q1, q2, qK, q10, q11, q12, q13, q14⟩ := q; exact ⟨q0, q1, q2, jG.calling g mk a qK, q10, q11, q12, q13, q14⟩, hh_13.recv (C := RX1) (T := TX1) (N := 17) hB3 rfl (by decide) hg_r2 hK, fun U hU hW => ⟨rfl, hU, hh_13.2.1, hG.step hW hU hh_13.1, hg_r2, hg_tx_, (hh_13.2.2.1.sub (L1 := [(r2, 3, 3, .int pl), (r2, 3, 2, .ref tx_)]) [10, 11] rfl), (hh_13.2.2.2.2.2.2.2.1.sub (L1 := [(tx_, 173, 1500, ca 1, ft)]) [7] rfl), by first | omega | (refine ⟨?_, ?_⟩ <;> (first | omega | rfl | assumption | decide | exact Or.inl rfl | exact Or.inr rfl | (simp only; omega)))⟩⟩ rfl rfl hl.1 rfl (lv_room (Nat.le_of_ble_eq_true rfl)) dX11_placeTold_70 ⟨Nat.zero_le _, Nat.zero_le _⟩) hh_13.1 (fun q _ h => h) (fun q h => h) (fun r_16 u_15 t_15 H_15 locs_15 ht_15 hvm_15 hr_16 hb_15 hz_15 hk_15 hS_15 => ?_)
      rw [ht_15] at hb_15
      obtain ⟨hb_151, hb_152, hb_153, hb_154, hb_155⟩ := hb_15
      have hh_15 : jSt (dC, dI) B base G0 G0 EX11_placeToldU s.heap 0 0 [(r0, 13, 2, .ref js), (js, 6, 7, .int pv), (js, 6, 8, .int pu), (js, 6, 0, .ref wk), (js, 6, 1, .ref wi), (js, 6, 2, .ref wz), (js, 6, 3, .ref jnx), (js, 6, 4, .ref jkf), (js, 6, 5, .ref jks), (js, 6, 6, .ref jun), (r2, 3, 3, .int pl), (r2, 3, 2, .ref tx_)] [(wk, 140, 1502, ca 1, fk), (wi, 141, 1502, ca 1, fi), (wz, 142, 1502, ca 1, fz), (jnx, 143, 1502, ca 1, fn), (jkf, 144, 1502, ca 1, fa), (jks, 145, 1502, ca 1, fs), (jun, 146, 3000, ca 1, fu), (tx_, 173, 1500, ca 1, ft)] [] H_15 locs_15 := ((hh_13.call hb_151 hb_152 hb_153 hb_154 hS_15 rfl (L1 := [(r0, 13, 2, .ref js), (js, 6, 7, .int pv), (js, 6, 8, .int pu), (js, 6, 0, .ref wk), (js, 6, 1, .ref wi), (js, 6, 2, .ref wz), (js, 6, 3, .ref jnx), (js, 6, 4, .ref jkf), (js, 6, 5, .ref jks), (js, 6, 6, .ref jun), (r2, 3, 3, .int pl), (r2, 3, 2, .ref tx_)]) [0, 1, 2, 3, 4, 5, 6, 7, 8, 9, 10, 11] rfl rfl (M1 := [(wk, 140, 1502, ca 1, fk), (wi, 141, 1502, ca 1, fi), (wz, 142, 1502, ca 1, fz), (jnx, 143, 1502, ca 1, fn), (jkf, 144, 1502, ca 1, fa), (jks, 145, 1502, ca 1, fs), (jun, 146, 3000, ca 1, fu), (tx_, 173, 1500, ca 1, ft)]) [0, 1, 2, 3, 4, 5, 6, 7] rfl rfl (I1 := []) [] rfl rfl).more hb_155)
      clear hh_13 ht_15 hvm_15 hz_15 hk_15 hS_15 hb_151 hb_152 hb_153 hb_154 hb_155
      obtain ⟨hr_16_0, hr_16_1, hr_16_2⟩ := hr_16
      rw [hQ]
      exact W.iret (v := r_16) hx hb hr (fun t ht hW => ⟨⟨r_16, (), rfl, ⟨by omega, by omega, jdT.y hr_2_3 hr_4_3 hr_6_1 hr_9_1 (by omega) (by omega) hr_12 hr_14 hr_16_2⟩, hh_15.rt (M1 := []) [] rfl ht⟩, by rw [ht]; try exact hh_15.1.1, fun q h9 hq => by rw [ht]; try exact hh_15.1.2.1 q h9 hq⟩) hh_15.1.2.2 dX11_placeTold_73
    · skip
      have c_10' : r_9.toInt ≠ 4 := jb_eq_n (rfl) ((by decide)) c_10
      try clear hr_9_0
      refine lv_iconst (v := (-1)) hx hb dX11_placeTold_50 (by decide) ?_
      rw [hQ]
      exact W.iret (v := (-1)) hx hb hr (fun t ht hW => ⟨⟨(-1), (), rfl, ⟨by omega, by omega, hkm1.trans (jdT.n hr_2_3 hr_4_3 (Or.inr (by rw [← hr_9_1]; omega))).symm⟩, hh_8.rt (M1 := []) [] rfl ht⟩, by rw [ht]; try exact hh_8.1.1, fun q h9 hq => by rw [ht]; try exact hh_8.1.2.1 q h9 hq⟩) hh_8.1.2.2 dX11_placeTold_51
set_option maxHeartbeats 4000000 in
set_option maxRecDepth 20000 in
theorem uX11_makeChangeU (l : Launch) (dC : Nat → ClassId) (dI : Nat → Nat → Nat) (ca : Nat → ClassId) (base : Nat) (B : jF) (hB : jBok B) (hAp : jAp (dC, dI)) (hB3 : ∀ n G a H, B 3 n G a H ↔ jOb (dC, dI) 3 17 (F3 n G) a H) (hB6 : ∀ n G a H, B 6 n G a H ↔ jOb (dC, dI) 6 12 (F6 n G) a H) (hB13 : ∀ n G a H, B 13 n G a H ↔ jOb (dC, dI) 13 19 (F13 n G) a H) (hB140 : ∀ n G a H, B 140 n G a H ↔ jAr (dC, dI) (ca 1) (fun j z => True) n a H) (hB141 : ∀ n G a H, B 141 n G a H ↔ jAr (dC, dI) (ca 1) (fun j z => True) n a H) (hB142 : ∀ n G a H, B 142 n G a H ↔ jAr (dC, dI) (ca 1) (fun j z => True) n a H) (hB143 : ∀ n G a H, B 143 n G a H ↔ jAr (dC, dI) (ca 1) (fun j z => True) n a H) (hB144 : ∀ n G a H, B 144 n G a H ↔ jAr (dC, dI) (ca 1) (fun j z => 0 ≤ z.toInt ∧ z.toInt ≤ 3000) n a H) (hB145 : ∀ n G a H, B 145 n G a H ↔ jAr (dC, dI) (ca 1) (fun j z => True) n a H) (hB146 : ∀ n G a H, B 146 n G a H ↔ jAr (dC, dI) (ca 1) (fun j z => True) n a H) (hB173 : ∀ n G a H, B 173 n G a H ↔ jAr (dC, dI) (ca 1) (fun j z => True) n a H) (G0 : jT) (H0 : Heap) (r0 : Nat) (a1 : Int32) (js : Nat) (pv : Int32) (pu : Int32) (wk : Nat) (wi : Nat) (wz : Nat) (jnx : Nat) (jkf : Nat) (jks : Nat) (jun : Nat) (sp : Nat) (n_sp : Nat) (pl : Int32) (tx_ : Nat) (T9 : Nat → Int → Int) (tq : jDtl) (fk : Nat → Int32) (fi : Nat → Int32) (fz : Nat → Int32) (fn : Nat → Int32) (fa : Nat → Int32) (fs : Nat → Int32) (fu : Nat → Int32) (ft : Nat → Int32) : Met l yX11_makeChange (jw yX11_makeChange cX11_makeChange 6 (some .boolean)) ({ frames := 7, cells := 0, slots := 0, locals := 214 }) (va_Pc [.ref r0, .int a1] (fun U => U.heap = H0 ∧ jX B base G0 [] H0 ∧ jG dC dI ca base U ∧ G0 r0 = some (13, 0) ∧ G0 js = some (6, 0) ∧ G0 wk = some (140, 1502) ∧ G0 wi = some (141, 1502) ∧ G0 wz = some (142, 1502) ∧ G0 jnx = some (143, 1502) ∧ G0 jkf = some (144, 1502) ∧ G0 jks = some (145, 1502) ∧ G0 jun = some (146, 3000) ∧ G0 sp = some (3, n_sp) ∧ G0 tx_ = some (173, 1500) ∧ jP (dC, dI) G0 H0 [(r0, 13, 2, .ref js), (js, 6, 7, .int pv), (js, 6, 8, .int pu), (js, 6, 0, .ref wk), (js, 6, 1, .ref wi), (js, 6, 2, .ref wz), (js, 6, 3, .ref jnx), (js, 6, 4, .ref jkf), (js, 6, 5, .ref jks), (js, 6, 6, .ref jun), (r0, 13, 15, .ref sp), (sp, 3, 3, .int pl), (sp, 3, 2, .ref tx_)] ∧ jMc (dC, dI) G0 H0 [(wk, 140, 1502, ca 1, fk), (wi, 141, 1502, ca 1, fi), (wz, 142, 1502, ca 1, fz), (jnx, 143, 1502, ca 1, fn), (jkf, 144, 1502, ca 1, fa), (jks, 145, 1502, ca 1, fs), (jun, 146, 3000, ca 1, fu), (tx_, 173, 1500, ca 1, ft)] ∧ jIs (dC, dI) G0 H0 [(jFcd, jCD dC dI ca G0 (some sp) tq)] ∧ 0 ≤ pv.toInt ∧ pv.toInt ≤ 1502 ∧ 0 ≤ pu.toInt ∧ pu.toInt ≤ 3000 ∧ jjTC T9 pv.toInt pu.toInt fk fi fz fn fa fs fu ∧ jqR fk fi fz fa fs pv.toInt pu.toInt ∧ jjCo T9 0 pv.toInt ∧ 0 ≤ pl.toInt ∧ pl.toInt ≤ 1500)) (va_Qi (S := Int32 × (Nat → Int32)) (fun r u => (r = 0 ∨ r = 1) ∧ ((r.toInt = 0 ∨ (∃ t : Int, 0 ≤ t ∧ t < pv.toInt ∧ jSo fs t = 4 ∧ jSo fk t = 3)) ∧ jdA T9 pv.toInt pl.toInt a1.toInt ft u.2 r.toInt u.1.toInt ∧ 0 ≤ u.1.toInt ∧ u.1.toInt ≤ 1500)) (fun u t => (jRt (dC, dI) B base G0 EX11_makeChangeU H0 [(sp, 3, 3, .int u.1)] t.heap ∧ jMc (dC, dI) G0 t.heap [(tx_, 173, 1500, ca 1, u.2)]) ∧ jIs (dC, dI) G0 t.heap [(jFcd, jCD dC dI ca G0 (some sp) tq)]) (jA base)) 0 0 (jA base) := by
  refine Met.ofW (cc := cX11_makeChange) (maxL := 6) (ret := (some .boolean)) (by decide) rfl ?_
  intro p e s m args below meth c s₁ Bd hml hv
  obtain ⟨rfl, hH0, hX, hG, hg_r0, hg_js, hg_wk, hg_wi, hg_wz, hg_jnx, hg_jkf, hg_jks, hg_jun, hg_sp, hg_tx_, hP0, hM0, hI0, hp0, hp1, hp2, hp3, hp4, hp5, hp6, hp7, hp8⟩ := hv
  have hK := hG.1
  have hx := Bd.exec
  have hb := Bd.bytes
  have hr := Bd.returns
  have hts := atoms_spec (ws := (jw yX11_makeChange cX11_makeChange 6 (some .boolean))) Bd.pre
  have htw : ∀ w ∈ jWl, w.before _ s = true := fun w h => hts w (List.mem_cons_of_mem _ h)
  have hown : s.vm.findClass RX11 = some m.cls := findClass_of_methodNamed Bd.named
  have hlocks := Bd.notSynchronized
  obtain ⟨Q, hQ⟩ : ∃ Q, Q = MQ below (va_Qi (S := Int32 × (Nat → Int32)) (fun r u => (r = 0 ∨ r = 1) ∧ ((r.toInt = 0 ∨ (∃ t : Int, 0 ≤ t ∧ t < pv.toInt ∧ jSo fs t = 4 ∧ jSo fk t = 3)) ∧ jdA T9 pv.toInt pl.toInt a1.toInt ft u.2 r.toInt u.1.toInt ∧ 0 ≤ u.1.toInt ∧ u.1.toInt ≤ 1500)) (fun u t => (jRt (dC, dI) B base G0 EX11_makeChangeU H0 [(sp, 3, 3, .int u.1)] t.heap ∧ jMc (dC, dI) G0 t.heap [(tx_, 173, 1500, ca 1, u.2)]) ∧ jIs (dC, dI) G0 t.heap [(jFcd, jCD dC dI ca G0 (some sp) tq)]) (jA base)) ([.ref r0, .int a1] : List Value).toArray s 0 0 (jA base) := ⟨_, rfl⟩
  rw [← hQ]
  have hl := lv_entry ([.ref r0, .int a1]) (n := 6) (Nat.le_of_ble_eq_true rfl)
  rw [lg_entry_eq]
  generalize (lg_sl ([.ref r0, .int a1]) ++ List.replicate (6 - (lg_sl ([.ref r0, .int a1])).length) Slot.unset).toArray = ls at hl ⊢
  have hl : lv_has ls 6 [(0, .ref r0), (1, .int a1)] := hl
  generalize hR : (headSpec (jw yX11_makeChange cX11_makeChange 6 (some .boolean)) ({ frames := 7, cells := 0, slots := 0, locals := 214 })).room = R
  subst hH0
  have hh : jSt (dC, dI) B base G0 G0 EX11_makeChangeU s.heap 0 0 [(r0, 13, 2, .ref js), (js, 6, 7, .int pv), (js, 6, 8, .int pu), (js, 6, 0, .ref wk), (js, 6, 1, .ref wi), (js, 6, 2, .ref wz), (js, 6, 3, .ref jnx), (js, 6, 4, .ref jkf), (js, 6, 5, .ref jks), (js, 6, 6, .ref jun), (r0, 13, 15, .ref sp), (sp, 3, 3, .int pl), (sp, 3, 2, .ref tx_)] [(wk, 140, 1502, ca 1, fk), (wi, 141, 1502, ca 1, fi), (wz, 142, 1502, ca 1, fz), (jnx, 143, 1502, ca 1, fn), (jkf, 144, 1502, ca 1, fa), (jks, 145, 1502, ca 1, fs), (jun, 146, 3000, ca 1, fu), (tx_, 173, 1500, ca 1, ft)] [(jFcd, jCD dC dI ca G0 (some sp) tq)] s.heap [] := jSt.start hX hP0 hM0 hI0
  clear hX hP0
  have hk0 : (0 : Int32).toInt = 0 := by decide
  have hk1 : (1 : Int32).toInt = 1 := by decide
  have hk3 : (3 : Int32).toInt = 3 := by decide
  have hly_3_3 := htw (u_lay RX1 TX1 3) (jWc_wsX10 _ (u_in_lay (by decide)))
  have hly_13_2 := htw (u_lay RX11 TX11 2) (jWc_wsX110 _ (u_in_lay (by decide)))
  have hly_13_15 := htw (u_lay RX11 TX11 15) (jWc_wsX110 _ (u_in_lay (by decide)))
  have hlk_28 := (htw (.fieldLink RX11 28 "ProofServer" "json" "LProofServer$Json;") (jWr_1 _ (List.mem_of_getElem? (i := 23) rfl)))
  obtain ⟨str355, rstr355, hstr3550⟩ := hG.strT (o := RX11) (k := 355) (tx := "text") (List.mem_of_getElem? (i := 1102) (by decide +kernel))
  have hTstr355 : jStrF base str355 4 (jChT "text") s s.heap := hstr3550.F (by decide +kernel)
  have hstr355 : jStr base str355 4 s s.heap := hTstr355.str
  obtain ⟨str406, rstr406, hstr4060⟩ := hG.strT (o := RX11) (k := 406) (tx := "range") (List.mem_of_getElem? (i := 1269) (by decide +kernel))
  have hTstr406 : jStrF base str406 5 (jChT "range") s s.heap := hstr4060.F (by decide +kernel)
  have hstr406 : jStr base str406 5 s s.heap := hTstr406.str
  have hlk_82 := (htw (.fieldLink RX11 82 "ProofServer" "spare" "LProofServer$Document;") (jWr_2 _ (List.mem_of_getElem? (i := 22) rfl)))
  have hlk_165 := (htw (.fieldLink RX11 165 "ProofServer$Document" "length" "I") (jWr_41 _ (List.mem_of_getElem? (i := 20) rfl)))
  obtain ⟨str408, rstr408, hstr4080⟩ := hG.strT (o := RX11) (k := 408) (tx := "start") (List.mem_of_getElem? (i := 1270) (by decide +kernel))
  have hTstr408 : jStrF base str408 5 (jChT "start") s s.heap := hstr4080.F (by decide +kernel)
  have hstr408 : jStr base str408 5 s s.heap := hTstr408.str
  obtain ⟨str413, rstr413, hstr4130⟩ := hG.strT (o := RX11) (k := 413) (tx := "end") (List.mem_of_getElem? (i := 1271) (by decide +kernel))
  have hTstr413 : jStrF base str413 3 (jChT "end") s s.heap := hstr4130.F (by decide +kernel)
  have hstr413 : jStr base str413 3 s s.heap := hTstr413.str
  have hrg_a1 := jb_rng a1
  refine lv_aload_n hx hb dX11_makeChange_0 rfl (lv_at hl 0 rfl) ?_
  refine j7_read hx hb hown hK (C := RX11) (T := TX11) (N := 19) rfl hly_13_2 hlk_28 (hh.at 0 rfl) dX11_makeChange_1 ?_
  refine lv_iload_n hx hb dX11_makeChange_4 rfl (lv_at hl 1 rfl) ?_
  refine j_ldcSw hx hb hown rstr355 dX11_makeChange_5 ?_
  refine va_calli (A0 := jA base) (H0 := s.heap) (va_runV (As := [.int a1, .ref str355]) (rest := []) ⟨hx, hb, hml, hown, hts⟩ (uX4_memberJ l dC dI ca base B hB hAp hB6 hB140 hB141 hB142 hB143 hB144 hB145 hB146 G0 s.heap js a1 str355 4 (jChT "text") pv pu wk wi wz jnx jkf jks jun T9 fk fi fz fn fa fs fu) (cwV 2 hts (jgV (jWr_23 _ (List.mem_of_getElem? (i := 10) rfl)) (jWr_23 _ (List.mem_of_getElem? (i := 11) rfl)) (jWr_23 _ (List.mem_of_getElem? (i := 12) rfl)) (jWr_1 _ (List.mem_of_getElem? (i := 22) rfl)) (jWr_23 _ (List.mem_of_getElem? (i := 13) rfl))) rfl rfl rfl (by decide +kernel) ⟨by rw [← hR]; exact Nat.le_of_ble_eq_true rfl, by rw [← hR]; exact Nat.le_of_ble_eq_true rfl⟩) ⟨fun a U g mk q => by obtain ⟨q0, q1, q2, qK, q10, q11, q12, q13, q14, q15, q16, q17, q18, q19, q20, q21⟩ := q; exact ⟨q0, q1, q2, jG.calling g mk a qK, (q10.moved (Vm.Alike.refl U.vm)), q11, q12, q13, q14, q15, q16, q17, q18, q19, q20, q21⟩, hh.recv (C := RX4) (T := TX4) (N := 12) hB6 rfl (by decide) hg_js hK, fun U hU hW => ⟨rfl, hU, hh.2.1, hG.step hW hU hh.1, (hTstr355.moved hW.alike).kept hh.1.2.1, hg_js, hg_wk, hg_wi, hg_wz, hg_jnx, hg_jkf, hg_jks, hg_jun, (hh.2.2.1.sub (L1 := [(js, 6, 7, .int pv), (js, 6, 8, .int pu), (js, 6, 0, .ref wk), (js, 6, 1, .ref wi), (js, 6, 2, .ref wz), (js, 6, 3, .ref jnx), (js, 6, 4, .ref jkf), (js, 6, 5, .ref jks), (js, 6, 6, .ref jun)]) [1, 2, 3, 4, 5, 6, 7, 8, 9] rfl), (hh.2.2.2.2.2.2.2.1.sub (L1 := [(wk, 140, 1502, ca 1, fk), (wi, 141, 1502, ca 1, fi), (wz, 142, 1502, ca 1, fz), (jnx, 143, 1502, ca 1, fn), (jkf, 144, 1502, ca 1, fa), (jks, 145, 1502, ca 1, fs), (jun, 146, 3000, ca 1, fu)]) [0, 1, 2, 3, 4, 5, 6] rfl), by first | omega | (refine ⟨?_, ?_, ?_, ?_, ?_, ?_, ?_, ?_⟩ <;> (first | omega | rfl | assumption | decide | exact Or.inl rfl | exact Or.inr rfl | (simp only; omega)))⟩⟩ rfl rfl hl.1 rfl (lv_room (Nat.le_of_ble_eq_true rfl)) dX11_makeChange_8 ⟨Nat.zero_le _, Nat.zero_le _⟩) hh.1 (fun q _ h => h) (fun q h => h) (fun r_2 u_1 t_1 H_1 locs_1 ht_1 hvm_1 hr_2 hb_1 hz_1 hk_1 hS_1 => ?_)
  rw [ht_1] at hb_1
  obtain ⟨hb_1, hbF_1⟩ := hb_1
  obtain ⟨hb_11, hb_12, hb_13, hb_14, hb_15⟩ := hb_1
  have hh_1 : jSt (dC, dI) B base G0 G0 EX11_makeChangeU s.heap 0 0 [(r0, 13, 2, .ref js), (js, 6, 7, .int pv), (js, 6, 8, .int pu), (js, 6, 0, .ref wk), (js, 6, 1, .ref wi), (js, 6, 2, .ref wz), (js, 6, 3, .ref jnx), (js, 6, 4, .ref jkf), (js, 6, 5, .ref jks), (js, 6, 6, .ref jun), (r0, 13, 15, .ref sp), (sp, 3, 3, .int pl), (sp, 3, 2, .ref tx_)] [(wk, 140, 1502, ca 1, fk), (wi, 141, 1502, ca 1, fi), (wz, 142, 1502, ca 1, fz), (jnx, 143, 1502, ca 1, fn), (jkf, 144, 1502, ca 1, fa), (jks, 145, 1502, ca 1, fs), (jun, 146, 3000, ca 1, fu), (tx_, 173, 1500, ca 1, ft)] [(jFcd, jCD dC dI ca G0 (some sp) tq)] H_1 locs_1 := ((hh.call hb_11 hb_12 hb_13 hb_14 hS_1 rfl (L1 := [(r0, 13, 2, .ref js), (js, 6, 7, .int pv), (js, 6, 8, .int pu), (js, 6, 0, .ref wk), (js, 6, 1, .ref wi), (js, 6, 2, .ref wz), (js, 6, 3, .ref jnx), (js, 6, 4, .ref jkf), (js, 6, 5, .ref jks), (js, 6, 6, .ref jun), (r0, 13, 15, .ref sp), (sp, 3, 3, .int pl), (sp, 3, 2, .ref tx_)]) [0, 1, 2, 3, 4, 5, 6, 7, 8, 9, 10, 11, 12] rfl rfl (M1 := [(wk, 140, 1502, ca 1, fk), (wi, 141, 1502, ca 1, fi), (wz, 142, 1502, ca 1, fz), (jnx, 143, 1502, ca 1, fn), (jkf, 144, 1502, ca 1, fa), (jks, 145, 1502, ca 1, fs), (jun, 146, 3000, ca 1, fu), (tx_, 173, 1500, ca 1, ft)]) [0, 1, 2, 3, 4, 5, 6, 7] rfl rfl (I1 := [(jFcd, jCD dC dI ca G0 (some sp) tq)]) [0] rfl rfl).more hb_15)
  clear hh ht_1 hvm_1 hz_1 hk_1 hS_1 hb_11 hb_12 hb_13 hb_14 hb_15
  obtain ⟨hr_2_0, hr_2_1, hr_2_2, hr_2_3⟩ := hr_2
  refine lv_istore_n (lv' := [(2, .int r_2), (0, .ref r0), (1, .int a1)]) hx hb dX11_makeChange_11 rfl hl (by decide) rfl (fun ls hl => ?_)
  refine lv_aload_n hx hb dX11_makeChange_12 rfl (lv_at hl 1 rfl) ?_
  refine j7_read hx hb hown hK (C := RX11) (T := TX11) (N := 19) rfl hly_13_2 hlk_28 (hh_1.at 0 rfl) dX11_makeChange_13 ?_
  refine lv_iload_n hx hb dX11_makeChange_16 rfl (lv_at hl 2 rfl) ?_
  refine j_ldcSw hx hb hown rstr406 dX11_makeChange_17 ?_
  refine va_calli (A0 := jA base) (H0 := s.heap) (va_runV (As := [.int a1, .ref str406]) (rest := []) ⟨hx, hb, hml, hown, hts⟩ (uX4_memberJ l dC dI ca base B hB hAp hB6 hB140 hB141 hB142 hB143 hB144 hB145 hB146 G0 H_1 js a1 str406 5 (jChT "range") pv pu wk wi wz jnx jkf jks jun T9 fk fi fz fn fa fs fu) (cwV 2 hts (jgV (jWr_23 _ (List.mem_of_getElem? (i := 10) rfl)) (jWr_23 _ (List.mem_of_getElem? (i := 11) rfl)) (jWr_23 _ (List.mem_of_getElem? (i := 12) rfl)) (jWr_1 _ (List.mem_of_getElem? (i := 22) rfl)) (jWr_23 _ (List.mem_of_getElem? (i := 13) rfl))) rfl rfl rfl (by decide +kernel) ⟨by rw [← hR]; exact Nat.le_of_ble_eq_true rfl, by rw [← hR]; exact Nat.le_of_ble_eq_true rfl⟩) ⟨fun a U g mk q => by obtain ⟨q0, q1, q2, qK, q10, q11, q12, q13, q14, q15, q16, q17, q18, q19, q20, q21⟩ := q; exact ⟨q0, q1, q2, jG.calling g mk a qK, (q10.moved (Vm.Alike.refl U.vm)), q11, q12, q13, q14, q15, q16, q17, q18, q19, q20, q21⟩, hh_1.recv (C := RX4) (T := TX4) (N := 12) hB6 rfl (by decide) hg_js hK, fun U hU hW => ⟨rfl, hU, hh_1.2.1, hG.step hW hU hh_1.1, (hTstr406.moved hW.alike).kept hh_1.1.2.1, hg_js, hg_wk, hg_wi, hg_wz, hg_jnx, hg_jkf, hg_jks, hg_jun, (hh_1.2.2.1.sub (L1 := [(js, 6, 7, .int pv), (js, 6, 8, .int pu), (js, 6, 0, .ref wk), (js, 6, 1, .ref wi), (js, 6, 2, .ref wz), (js, 6, 3, .ref jnx), (js, 6, 4, .ref jkf), (js, 6, 5, .ref jks), (js, 6, 6, .ref jun)]) [1, 2, 3, 4, 5, 6, 7, 8, 9] rfl), (hh_1.2.2.2.2.2.2.2.1.sub (L1 := [(wk, 140, 1502, ca 1, fk), (wi, 141, 1502, ca 1, fi), (wz, 142, 1502, ca 1, fz), (jnx, 143, 1502, ca 1, fn), (jkf, 144, 1502, ca 1, fa), (jks, 145, 1502, ca 1, fs), (jun, 146, 3000, ca 1, fu)]) [0, 1, 2, 3, 4, 5, 6] rfl), by first | omega | (refine ⟨?_, ?_, ?_, ?_, ?_, ?_, ?_, ?_⟩ <;> (first | omega | rfl | assumption | decide | exact Or.inl rfl | exact Or.inr rfl | (simp only; omega)))⟩⟩ rfl rfl hl.1 rfl (lv_room (Nat.le_of_ble_eq_true rfl)) dX11_makeChange_20 ⟨Nat.zero_le _, Nat.zero_le _⟩) hh_1.1 (fun q _ h => h) (fun q h => h) (fun r_4 u_3 t_3 H_3 locs_3 ht_3 hvm_3 hr_4 hb_3 hz_3 hk_3 hS_3 => ?_)
  rw [ht_3] at hb_3
  obtain ⟨hb_3, hbF_3⟩ := hb_3
  obtain ⟨hb_31, hb_32, hb_33, hb_34, hb_35⟩ := hb_3
  have hh_3 : jSt (dC, dI) B base G0 G0 EX11_makeChangeU s.heap 0 0 [(r0, 13, 2, .ref js), (js, 6, 7, .int pv), (js, 6, 8, .int pu), (js, 6, 0, .ref wk), (js, 6, 1, .ref wi), (js, 6, 2, .ref wz), (js, 6, 3, .ref jnx), (js, 6, 4, .ref jkf), (js, 6, 5, .ref jks), (js, 6, 6, .ref jun), (r0, 13, 15, .ref sp), (sp, 3, 3, .int pl), (sp, 3, 2, .ref tx_)] [(wk, 140, 1502, ca 1, fk), (wi, 141, 1502, ca 1, fi), (wz, 142, 1502, ca 1, fz), (jnx, 143, 1502, ca 1, fn), (jkf, 144, 1502, ca 1, fa), (jks, 145, 1502, ca 1, fs), (jun, 146, 3000, ca 1, fu), (tx_, 173, 1500, ca 1, ft)] [(jFcd, jCD dC dI ca G0 (some sp) tq)] H_3 locs_3 := ((hh_1.call hb_31 hb_32 hb_33 hb_34 hS_3 rfl (L1 := [(r0, 13, 2, .ref js), (js, 6, 7, .int pv), (js, 6, 8, .int pu), (js, 6, 0, .ref wk), (js, 6, 1, .ref wi), (js, 6, 2, .ref wz), (js, 6, 3, .ref jnx), (js, 6, 4, .ref jkf), (js, 6, 5, .ref jks), (js, 6, 6, .ref jun), (r0, 13, 15, .ref sp), (sp, 3, 3, .int pl), (sp, 3, 2, .ref tx_)]) [0, 1, 2, 3, 4, 5, 6, 7, 8, 9, 10, 11, 12] rfl rfl (M1 := [(wk, 140, 1502, ca 1, fk), (wi, 141, 1502, ca 1, fi), (wz, 142, 1502, ca 1, fz), (jnx, 143, 1502, ca 1, fn), (jkf, 144, 1502, ca 1, fa), (jks, 145, 1502, ca 1, fs), (jun, 146, 3000, ca 1, fu), (tx_, 173, 1500, ca 1, ft)]) [0, 1, 2, 3, 4, 5, 6, 7] rfl rfl (I1 := [(jFcd, jCD dC dI ca G0 (some sp) tq)]) [0] rfl rfl).more hb_35)
  clear hh_1 ht_3 hvm_3 hz_3 hk_3 hS_3 hb_31 hb_32 hb_33 hb_34 hb_35
  obtain ⟨hr_4_0, hr_4_1, hr_4_2, hr_4_3⟩ := hr_4
  refine lv_istore_n (lv' := [(3, .int r_4), (2, .int r_2), (0, .ref r0), (1, .int a1)]) hx hb dX11_makeChange_23 rfl hl (by decide) rfl (fun ls hl => ?_)
  refine lv_aload_n hx hb dX11_makeChange_24 rfl (lv_at hl 2 rfl) ?_
  refine j7_read hx hb hown hK (C := RX11) (T := TX11) (N := 19) rfl hly_13_2 hlk_28 (hh_3.at 0 rfl) dX11_makeChange_25 ?_
  refine lv_iload_n hx hb dX11_makeChange_28 rfl (lv_at hl 1 rfl) ?_
  refine va_calli (A0 := jA base) (H0 := s.heap) (va_runV (As := [.int r_2]) (rest := []) ⟨hx, hb, hml, hown, hts⟩ (uX4_kindOfJ l dC dI ca base B hB hAp hB6 hB140 G0 H_3 js r_2 pv pu wk wi wz jnx jkf jks jun T9 fk fi fz fn fa fs fu) (cwV 1 hts (jgV (jWr_27 _ (List.mem_of_getElem? (i := 5) rfl)) (jWr_23 _ (List.mem_of_getElem? (i := 15) rfl)) (jWr_23 _ (List.mem_of_getElem? (i := 16) rfl)) (jWr_1 _ (List.mem_of_getElem? (i := 22) rfl)) (jWr_23 _ (List.mem_of_getElem? (i := 17) rfl))) rfl rfl rfl (by decide +kernel) ⟨by rw [← hR]; exact Nat.le_of_ble_eq_true rfl, by rw [← hR]; exact Nat.le_of_ble_eq_true rfl⟩) ⟨fun a U g mk q => by obtain ⟨q0, q1, q2, qK, q10, q11, q12, q13, q14, q15, q16, q17, q18, q19, q20⟩ := q; exact ⟨q0, q1, q2, jG.calling g mk a qK, q10, q11, q12, q13, q14, q15, q16, q17, q18, q19, q20⟩, hh_3.recv (C := RX4) (T := TX4) (N := 12) hB6 rfl (by decide) hg_js hK, fun U hU hW => ⟨rfl, hU, hh_3.2.1, hG.step hW hU hh_3.1, hg_js, hg_wk, hg_wi, hg_wz, hg_jnx, hg_jkf, hg_jks, hg_jun, (hh_3.2.2.1.sub (L1 := [(js, 6, 7, .int pv), (js, 6, 8, .int pu), (js, 6, 0, .ref wk), (js, 6, 1, .ref wi), (js, 6, 2, .ref wz), (js, 6, 3, .ref jnx), (js, 6, 4, .ref jkf), (js, 6, 5, .ref jks), (js, 6, 6, .ref jun)]) [1, 2, 3, 4, 5, 6, 7, 8, 9] rfl), (hh_3.2.2.2.2.2.2.2.1.sub (L1 := [(wk, 140, 1502, ca 1, fk), (wi, 141, 1502, ca 1, fi), (wz, 142, 1502, ca 1, fz), (jnx, 143, 1502, ca 1, fn), (jkf, 144, 1502, ca 1, fa), (jks, 145, 1502, ca 1, fs), (jun, 146, 3000, ca 1, fu)]) [0, 1, 2, 3, 4, 5, 6] rfl), by first | omega | (refine ⟨?_, ?_, ?_, ?_, ?_⟩ <;> (first | omega | rfl | assumption | decide | exact Or.inl rfl | exact Or.inr rfl | (simp only; omega)))⟩⟩ rfl rfl hl.1 rfl (lv_room (Nat.le_of_ble_eq_true rfl)) dX11_makeChange_29 ⟨Nat.zero_le _, Nat.zero_le _⟩) hh_3.1 (fun q _ h => h) (fun q h => h) (fun r_6 u_5 t_5 H_5 locs_5 ht_5 hvm_5 hr_6 hb_5 hz_5 hk_5 hS_5 => ?_)
  rw [ht_5] at hb_5
  obtain ⟨hb_5, hbF_5⟩ := hb_5
  obtain ⟨hb_51, hb_52, hb_53, hb_54, hb_55⟩ := hb_5
  have hh_5 : jSt (dC, dI) B base G0 G0 EX11_makeChangeU s.heap 0 0 [(r0, 13, 2, .ref js), (js, 6, 7, .int pv), (js, 6, 8, .int pu), (js, 6, 0, .ref wk), (js, 6, 1, .ref wi), (js, 6, 2, .ref wz), (js, 6, 3, .ref jnx), (js, 6, 4, .ref jkf), (js, 6, 5, .ref jks), (js, 6, 6, .ref jun), (r0, 13, 15, .ref sp), (sp, 3, 3, .int pl), (sp, 3, 2, .ref tx_)] [(wk, 140, 1502, ca 1, fk), (wi, 141, 1502, ca 1, fi), (wz, 142, 1502, ca 1, fz), (jnx, 143, 1502, ca 1, fn), (jkf, 144, 1502, ca 1, fa), (jks, 145, 1502, ca 1, fs), (jun, 146, 3000, ca 1, fu), (tx_, 173, 1500, ca 1, ft)] [(jFcd, jCD dC dI ca G0 (some sp) tq)] H_5 locs_5 := ((hh_3.call hb_51 hb_52 hb_53 hb_54 hS_5 rfl (L1 := [(r0, 13, 2, .ref js), (js, 6, 7, .int pv), (js, 6, 8, .int pu), (js, 6, 0, .ref wk), (js, 6, 1, .ref wi), (js, 6, 2, .ref wz), (js, 6, 3, .ref jnx), (js, 6, 4, .ref jkf), (js, 6, 5, .ref jks), (js, 6, 6, .ref jun), (r0, 13, 15, .ref sp), (sp, 3, 3, .int pl), (sp, 3, 2, .ref tx_)]) [0, 1, 2, 3, 4, 5, 6, 7, 8, 9, 10, 11, 12] rfl rfl (M1 := [(wk, 140, 1502, ca 1, fk), (wi, 141, 1502, ca 1, fi), (wz, 142, 1502, ca 1, fz), (jnx, 143, 1502, ca 1, fn), (jkf, 144, 1502, ca 1, fa), (jks, 145, 1502, ca 1, fs), (jun, 146, 3000, ca 1, fu), (tx_, 173, 1500, ca 1, ft)]) [0, 1, 2, 3, 4, 5, 6, 7] rfl rfl (I1 := [(jFcd, jCD dC dI ca G0 (some sp) tq)]) [0] rfl rfl).more hb_55)
  clear hh_3 ht_5 hvm_5 hz_5 hk_5 hS_5 hb_51 hb_52 hb_53 hb_54 hb_55
  obtain ⟨hr_6_0, hr_6_1⟩ := hr_6
  refine lv_iconst (v := 3) hx hb dX11_makeChange_32 (by decide) ?_
  refine lv_icmp_eq (tgt := 38) hx hb dX11_makeChange_33 (by decide) (fun c_7 => ?_) (fun c_7 => ?_)
  · skip
    have c_7' : r_6.toInt = 3 := jb_eq (rfl) ((by decide)) c_7
    first | (have hr_2_2q := hr_2_2.resolve_left (by omega); clear hr_2_2) | (have hr_2_2q := hr_2_2.resolve_right (by omega); clear hr_2_2) | skip
    first | (have hr_6_0q := hr_6_0.resolve_left (by omega); clear hr_6_0) | (have hr_6_0q := hr_6_0.resolve_right (by omega); clear hr_6_0) | try clear hr_6_0
    have hka := jqK.p (T := T9) (v := pv.toInt) (i := r_2.toInt) (by rw [← hr_6_1]; omega)
    have hr9 := (hp5 r_2.toInt hka.1 hka.2.1).2 (by rw [← hp4.1 _ hka.1 hka.2.1, ← hka.2.2, ← hr_6_1]; omega)
    have hz9 : 0 ≤ jqZ T9 pv.toInt r_2.toInt := by unfold jqZ; rw [if_pos ⟨hka.1, hka.2.1⟩, hp4.2.2.1 _ hka.1 hka.2.1]; omega
    refine lv_iload_n hx hb dX11_makeChange_38 rfl (lv_at hl 0 rfl) ?_
    refine lv_if_ge (tgt := 63) hx hb dX11_makeChange_39 (by decide) (fun c_8 => ?_) (fun c_8 => ?_)
    · skip
      have c_8' : r_4.toInt ≥ 0 := jb_ge (rfl) ((by decide)) c_8
      first | (have hr_2_2q := hr_2_2.resolve_left (by omega); clear hr_2_2) | (have hr_2_2q := hr_2_2.resolve_right (by omega); clear hr_2_2) | skip
      first | (have hr_4_2q := hr_4_2.resolve_left (by omega); clear hr_4_2) | (have hr_4_2q := hr_4_2.resolve_right (by omega); clear hr_4_2) | skip
      refine lv_aload_n hx hb dX11_makeChange_63 rfl (lv_at hl 2 rfl) ?_
      refine lv_aload_n hx hb dX11_makeChange_64 rfl (lv_at hl 2 rfl) ?_
      refine j7_read hx hb hown hK (C := RX11) (T := TX11) (N := 19) rfl hly_13_2 hlk_28 (hh_5.at 0 rfl) dX11_makeChange_65 ?_
      refine lv_iload_n hx hb dX11_makeChange_68 rfl (lv_at hl 0 rfl) ?_
      refine j_ldcSw hx hb hown rstr408 dX11_makeChange_69 ?_
      refine va_calli (A0 := jA base) (H0 := s.heap) (va_runV (As := [.int r_4, .ref str408]) (rest := [.ref r0]) ⟨hx, hb, hml, hown, hts⟩ (uX4_memberJ l dC dI ca base B hB hAp hB6 hB140 hB141 hB142 hB143 hB144 hB145 hB146 G0 H_5 js r_4 str408 5 (jChT "start") pv pu wk wi wz jnx jkf jks jun T9 fk fi fz fn fa fs fu) (cwV 2 hts (jgV (jWr_23 _ (List.mem_of_getElem? (i := 10) rfl)) (jWr_23 _ (List.mem_of_getElem? (i := 11) rfl)) (jWr_23 _ (List.mem_of_getElem? (i := 12) rfl)) (jWr_1 _ (List.mem_of_getElem? (i := 22) rfl)) (jWr_23 _ (List.mem_of_getElem? (i := 13) rfl))) rfl rfl rfl (by decide +kernel) ⟨by rw [← hR]; exact Nat.le_of_ble_eq_true rfl, by rw [← hR]; exact Nat.le_of_ble_eq_true rfl⟩) ⟨fun a U g mk q => by obtain ⟨q0, q1, q2, qK, q10, q11, q12, q13, q14, q15, q16, q17, q18, q19, q20, q21⟩ := q; exact ⟨q0, q1, q2, jG.calling g mk a qK, (q10.moved (Vm.Alike.refl U.vm)), q11, q12, q13, q14, q15, q16, q17, q18, q19, q20, q21⟩, hh_5.recv (C := RX4) (T := TX4) (N := 12) hB6 rfl (by decide) hg_js hK, fun U hU hW => ⟨rfl, hU, hh_5.2.1, hG.step hW hU hh_5.1, (hTstr408.moved hW.alike).kept hh_5.1.2.1, hg_js, hg_wk, hg_wi, hg_wz, hg_jnx, hg_jkf, hg_jks, hg_jun, (hh_5.2.2.1.sub (L1 := [(js, 6, 7, .int pv), (js, 6, 8, .int pu), (js, 6, 0, .ref wk), (js, 6, 1, .ref wi), (js, 6, 2, .ref wz), (js, 6, 3, .ref jnx), (js, 6, 4, .ref jkf), (js, 6, 5, .ref jks), (js, 6, 6, .ref jun)]) [1, 2, 3, 4, 5, 6, 7, 8, 9] rfl), (hh_5.2.2.2.2.2.2.2.1.sub (L1 := [(wk, 140, 1502, ca 1, fk), (wi, 141, 1502, ca 1, fi), (wz, 142, 1502, ca 1, fz), (jnx, 143, 1502, ca 1, fn), (jkf, 144, 1502, ca 1, fa), (jks, 145, 1502, ca 1, fs), (jun, 146, 3000, ca 1, fu)]) [0, 1, 2, 3, 4, 5, 6] rfl), by first | omega | (refine ⟨?_, ?_, ?_, ?_, ?_, ?_, ?_, ?_⟩ <;> (first | omega | rfl | assumption | decide | exact Or.inl rfl | exact Or.inr rfl | (simp only; omega)))⟩⟩ rfl rfl hl.1 rfl (lv_room (Nat.le_of_ble_eq_true rfl)) dX11_makeChange_72 ⟨Nat.zero_le _, Nat.zero_le _⟩) hh_5.1 (fun q _ h => h) (fun q h => h) (fun r_10 u_9 t_9 H_9 locs_9 ht_9 hvm_9 hr_10 hb_9 hz_9 hk_9 hS_9 => ?_)
      rw [ht_9] at hb_9
      obtain ⟨hb_9, hbF_9⟩ := hb_9
      obtain ⟨hb_91, hb_92, hb_93, hb_94, hb_95⟩ := hb_9
      have hh_9 : jSt (dC, dI) B base G0 G0 EX11_makeChangeU s.heap 0 0 [(r0, 13, 2, .ref js), (js, 6, 7, .int pv), (js, 6, 8, .int pu), (js, 6, 0, .ref wk), (js, 6, 1, .ref wi), (js, 6, 2, .ref wz), (js, 6, 3, .ref jnx), (js, 6, 4, .ref jkf), (js, 6, 5, .ref jks), (js, 6, 6, .ref jun), (r0, 13, 15, .ref sp), (sp, 3, 3, .int pl), (sp, 3, 2, .ref tx_)] [(wk, 140, 1502, ca 1, fk), (wi, 141, 1502, ca 1, fi), (wz, 142, 1502, ca 1, fz), (jnx, 143, 1502, ca 1, fn), (jkf, 144, 1502, ca 1, fa), (jks, 145, 1502, ca 1, fs), (jun, 146, 3000, ca 1, fu), (tx_, 173, 1500, ca 1, ft)] [(jFcd, jCD dC dI ca G0 (some sp) tq)] H_9 locs_9 := ((hh_5.call hb_91 hb_92 hb_93 hb_94 hS_9 rfl (L1 := [(r0, 13, 2, .ref js), (js, 6, 7, .int pv), (js, 6, 8, .int pu), (js, 6, 0, .ref wk), (js, 6, 1, .ref wi), (js, 6, 2, .ref wz), (js, 6, 3, .ref jnx), (js, 6, 4, .ref jkf), (js, 6, 5, .ref jks), (js, 6, 6, .ref jun), (r0, 13, 15, .ref sp), (sp, 3, 3, .int pl), (sp, 3, 2, .ref tx_)]) [0, 1, 2, 3, 4, 5, 6, 7, 8, 9, 10, 11, 12] rfl rfl (M1 := [(wk, 140, 1502, ca 1, fk), (wi, 141, 1502, ca 1, fi), (wz, 142, 1502, ca 1, fz), (jnx, 143, 1502, ca 1, fn), (jkf, 144, 1502, ca 1, fa), (jks, 145, 1502, ca 1, fs), (jun, 146, 3000, ca 1, fu), (tx_, 173, 1500, ca 1, ft)]) [0, 1, 2, 3, 4, 5, 6, 7] rfl rfl (I1 := [(jFcd, jCD dC dI ca G0 (some sp) tq)]) [0] rfl rfl).more hb_95)
      clear hh_5 ht_9 hvm_9 hz_9 hk_9 hS_9 hb_91 hb_92 hb_93 hb_94 hb_95
      obtain ⟨hr_10_0, hr_10_1, hr_10_2, hr_10_3⟩ := hr_10
      refine lv_aload_n hx hb dX11_makeChange_75 rfl (lv_at hl 2 rfl) ?_
      refine j7_read hx hb hown hK (C := RX11) (T := TX11) (N := 19) rfl hly_13_15 hlk_82 (hh_9.at 10 rfl) dX11_makeChange_76 ?_
      refine va_calli (A0 := jA base) (H0 := s.heap) (va_runV (As := [.int r_10, .ref sp]) (rest := []) ⟨hx, hb, hml, hown, hts⟩ (uX11_placeToldU l dC dI ca base B hB hAp hB3 hB6 hB13 hB140 hB141 hB142 hB143 hB144 hB145 hB146 hB173 G0 H_9 r0 r_10 sp n_sp js pv pu wk wi wz jnx jkf jks jun pl tx_ T9 fk fi fz fn fa fs fu ft) (cwV 2 hts (jgV (jWr_28 _ (List.mem_of_getElem? (i := 20) rfl)) (jWr_28 _ (List.mem_of_getElem? (i := 21) rfl)) (jWr_28 _ (List.mem_of_getElem? (i := 22) rfl)) (jWr_1 _ (List.mem_of_getElem? (i := 2) rfl)) (jWr_28 _ (List.mem_of_getElem? (i := 23) rfl))) rfl rfl rfl (by decide +kernel) ⟨by rw [← hR]; exact Nat.le_of_ble_eq_true rfl, by rw [← hR]; exact Nat.le_of_ble_eq_true rfl⟩) ⟨fun a U g mk q => by obtain ⟨q0, q1, q2, qK, q10, q11, q12, q13, q14, q15, q16, q17, q18, q19, q20, q21, q22, q23⟩ := q; exact ⟨q0, q1, q2, jG.calling g mk a qK, q10, q11, q12, q13, q14, q15, q16, q17, q18, q19, q20, q21, q22, q23⟩, hh_9.recv (C := RX11) (T := TX11) (N := 19) hB13 rfl (by decide) hg_r0 hK, fun U hU hW => ⟨rfl, hU, hh_9.2.1, hG.step hW hU hh_9.1, hg_r0, hg_sp, hg_js, hg_wk, hg_wi, hg_wz, hg_jnx, hg_jkf, hg_jks, hg_jun, hg_tx_, (hh_9.2.2.1.sub (L1 := [(r0, 13, 2, .ref js), (js, 6, 7, .int pv), (js, 6, 8, .int pu), (js, 6, 0, .ref wk), (js, 6, 1, .ref wi), (js, 6, 2, .ref wz), (js, 6, 3, .ref jnx), (js, 6, 4, .ref jkf), (js, 6, 5, .ref jks), (js, 6, 6, .ref jun), (sp, 3, 3, .int pl), (sp, 3, 2, .ref tx_)]) [0, 1, 2, 3, 4, 5, 6, 7, 8, 9, 11, 12] rfl), (hh_9.2.2.2.2.2.2.2.1.sub (L1 := [(wk, 140, 1502, ca 1, fk), (wi, 141, 1502, ca 1, fi), (wz, 142, 1502, ca 1, fz), (jnx, 143, 1502, ca 1, fn), (jkf, 144, 1502, ca 1, fa), (jks, 145, 1502, ca 1, fs), (jun, 146, 3000, ca 1, fu), (tx_, 173, 1500, ca 1, ft)]) [0, 1, 2, 3, 4, 5, 6, 7] rfl), by first | omega | (refine ⟨?_, ?_, ?_, ?_, ?_, ?_, ?_, ?_, ?_⟩ <;> (first | omega | rfl | assumption | decide | exact Or.inl rfl | exact Or.inr rfl | (simp only; omega)))⟩⟩ rfl rfl hl.1 rfl (lv_room (Nat.le_of_ble_eq_true rfl)) dX11_makeChange_79 ⟨Nat.zero_le _, Nat.zero_le _⟩) hh_9.1 (fun q _ h => h) (fun q h => h) (fun r_12 u_11 t_11 H_11 locs_11 ht_11 hvm_11 hr_12 hb_11 hz_11 hk_11 hS_11 => ?_)
      rw [ht_11] at hb_11
      obtain ⟨hb_111, hb_112, hb_113, hb_114, hb_115⟩ := hb_11
      have hh_11 : jSt (dC, dI) B base G0 G0 EX11_makeChangeU s.heap 0 0 [(r0, 13, 2, .ref js), (js, 6, 7, .int pv), (js, 6, 8, .int pu), (js, 6, 0, .ref wk), (js, 6, 1, .ref wi), (js, 6, 2, .ref wz), (js, 6, 3, .ref jnx), (js, 6, 4, .ref jkf), (js, 6, 5, .ref jks), (js, 6, 6, .ref jun), (r0, 13, 15, .ref sp), (sp, 3, 3, .int pl), (sp, 3, 2, .ref tx_)] [(wk, 140, 1502, ca 1, fk), (wi, 141, 1502, ca 1, fi), (wz, 142, 1502, ca 1, fz), (jnx, 143, 1502, ca 1, fn), (jkf, 144, 1502, ca 1, fa), (jks, 145, 1502, ca 1, fs), (jun, 146, 3000, ca 1, fu), (tx_, 173, 1500, ca 1, ft)] [(jFcd, jCD dC dI ca G0 (some sp) tq)] H_11 locs_11 := ((hh_9.call hb_111 hb_112 hb_113 hb_114 hS_11 rfl (L1 := [(r0, 13, 2, .ref js), (js, 6, 7, .int pv), (js, 6, 8, .int pu), (js, 6, 0, .ref wk), (js, 6, 1, .ref wi), (js, 6, 2, .ref wz), (js, 6, 3, .ref jnx), (js, 6, 4, .ref jkf), (js, 6, 5, .ref jks), (js, 6, 6, .ref jun), (r0, 13, 15, .ref sp), (sp, 3, 3, .int pl), (sp, 3, 2, .ref tx_)]) [0, 1, 2, 3, 4, 5, 6, 7, 8, 9, 10, 11, 12] rfl rfl (M1 := [(wk, 140, 1502, ca 1, fk), (wi, 141, 1502, ca 1, fi), (wz, 142, 1502, ca 1, fz), (jnx, 143, 1502, ca 1, fn), (jkf, 144, 1502, ca 1, fa), (jks, 145, 1502, ca 1, fs), (jun, 146, 3000, ca 1, fu), (tx_, 173, 1500, ca 1, ft)]) [0, 1, 2, 3, 4, 5, 6, 7] rfl rfl (I1 := [(jFcd, jCD dC dI ca G0 (some sp) tq)]) [0] rfl rfl).more hb_115)
      clear hh_9 ht_11 hvm_11 hz_11 hk_11 hS_11 hb_111 hb_112 hb_113 hb_114 hb_115
      obtain ⟨hr_12_0, hr_12_1, hr_12_2⟩ := hr_12
      refine lv_istore (lv' := [(4, .int r_12), (3, .int r_4), (2, .int r_2), (0, .ref r0), (1, .int a1)]) hx hb dX11_makeChange_82 hl (by decide) rfl (fun ls hl => ?_)
      refine lv_aload_n hx hb dX11_makeChange_84 rfl (lv_at hl 3 rfl) ?_
      refine lv_aload_n hx hb dX11_makeChange_85 rfl (lv_at hl 3 rfl) ?_
      refine j7_read hx hb hown hK (C := RX11) (T := TX11) (N := 19) rfl hly_13_2 hlk_28 (hh_11.at 0 rfl) dX11_makeChange_86 ?_
      refine lv_iload_n hx hb dX11_makeChange_89 rfl (lv_at hl 1 rfl) ?_
      refine j_ldcSw hx hb hown rstr413 dX11_makeChange_90 ?_
      refine va_calli (A0 := jA base) (H0 := s.heap) (va_runV (As := [.int r_4, .ref str413]) (rest := [.ref r0]) ⟨hx, hb, hml, hown, hts⟩ (uX4_memberJ l dC dI ca base B hB hAp hB6 hB140 hB141 hB142 hB143 hB144 hB145 hB146 G0 H_11 js r_4 str413 3 (jChT "end") pv pu wk wi wz jnx jkf jks jun T9 fk fi fz fn fa fs fu) (cwV 2 hts (jgV (jWr_23 _ (List.mem_of_getElem? (i := 10) rfl)) (jWr_23 _ (List.mem_of_getElem? (i := 11) rfl)) (jWr_23 _ (List.mem_of_getElem? (i := 12) rfl)) (jWr_1 _ (List.mem_of_getElem? (i := 22) rfl)) (jWr_23 _ (List.mem_of_getElem? (i := 13) rfl))) rfl rfl rfl (by decide +kernel) ⟨by rw [← hR]; exact Nat.le_of_ble_eq_true rfl, by rw [← hR]; exact Nat.le_of_ble_eq_true rfl⟩) ⟨fun a U g mk q => by obtain ⟨q0, q1, q2, qK, q10, q11, q12, q13, q14, q15, q16, q17, q18, q19, q20, q21⟩ := q; exact ⟨q0, q1, q2, jG.calling g mk a qK, (q10.moved (Vm.Alike.refl U.vm)), q11, q12, q13, q14, q15, q16, q17, q18, q19, q20, q21⟩, hh_11.recv (C := RX4) (T := TX4) (N := 12) hB6 rfl (by decide) hg_js hK, fun U hU hW => ⟨rfl, hU, hh_11.2.1, hG.step hW hU hh_11.1, (hTstr413.moved hW.alike).kept hh_11.1.2.1, hg_js, hg_wk, hg_wi, hg_wz, hg_jnx, hg_jkf, hg_jks, hg_jun, (hh_11.2.2.1.sub (L1 := [(js, 6, 7, .int pv), (js, 6, 8, .int pu), (js, 6, 0, .ref wk), (js, 6, 1, .ref wi), (js, 6, 2, .ref wz), (js, 6, 3, .ref jnx), (js, 6, 4, .ref jkf), (js, 6, 5, .ref jks), (js, 6, 6, .ref jun)]) [1, 2, 3, 4, 5, 6, 7, 8, 9] rfl), (hh_11.2.2.2.2.2.2.2.1.sub (L1 := [(wk, 140, 1502, ca 1, fk), (wi, 141, 1502, ca 1, fi), (wz, 142, 1502, ca 1, fz), (jnx, 143, 1502, ca 1, fn), (jkf, 144, 1502, ca 1, fa), (jks, 145, 1502, ca 1, fs), (jun, 146, 3000, ca 1, fu)]) [0, 1, 2, 3, 4, 5, 6] rfl), by first | omega | (refine ⟨?_, ?_, ?_, ?_, ?_, ?_, ?_, ?_⟩ <;> (first | omega | rfl | assumption | decide | exact Or.inl rfl | exact Or.inr rfl | (simp only; omega)))⟩⟩ rfl rfl hl.1 rfl (lv_room (Nat.le_of_ble_eq_true rfl)) dX11_makeChange_93 ⟨Nat.zero_le _, Nat.zero_le _⟩) hh_11.1 (fun q _ h => h) (fun q h => h) (fun r_14 u_13 t_13 H_13 locs_13 ht_13 hvm_13 hr_14 hb_13 hz_13 hk_13 hS_13 => ?_)
      rw [ht_13] at hb_13
      obtain ⟨hb_13, hbF_13⟩ := hb_13
      obtain ⟨hb_131, hb_132, hb_133, hb_134, hb_135⟩ := hb_13
      have hh_13 : jSt (dC, dI) B base G0 G0 EX11_makeChangeU s.heap 0 0 [(r0, 13, 2, .ref js), (js, 6, 7, .int pv), (js, 6, 8, .int pu), (js, 6, 0, .ref wk), (js, 6, 1, .ref wi), (js, 6, 2, .ref wz), (js, 6, 3, .ref jnx), (js, 6, 4, .ref jkf), (js, 6, 5, .ref jks), (js, 6, 6, .ref jun), (r0, 13, 15, .ref sp), (sp, 3, 3, .int pl), (sp, 3, 2, .ref tx_)] [(wk, 140, 1502, ca 1, fk), (wi, 141, 1502, ca 1, fi), (wz, 142, 1502, ca 1, fz), (jnx, 143, 1502, ca 1, fn), (jkf, 144, 1502, ca 1, fa), (jks, 145, 1502, ca 1, fs), (jun, 146, 3000, ca 1, fu), (tx_, 173, 1500, ca 1, ft)] [(jFcd, jCD dC dI ca G0 (some sp) tq)] H_13 locs_13 := ((hh_11.call hb_131 hb_132 hb_133 hb_134 hS_13 rfl (L1 := [(r0, 13, 2, .ref js), (js, 6, 7, .int pv), (js, 6, 8, .int pu), (js, 6, 0, .ref wk), (js, 6, 1, .ref wi), (js, 6, 2, .ref wz), (js, 6, 3, .ref jnx), (js, 6, 4, .ref jkf), (js, 6, 5, .ref jks), (js, 6, 6, .ref jun), (r0, 13, 15, .ref sp), (sp, 3, 3, .int pl), (sp, 3, 2, .ref tx_)]) [0, 1, 2, 3, 4, 5, 6, 7, 8, 9, 10, 11, 12] rfl rfl (M1 := [(wk, 140, 1502, ca 1, fk), (wi, 141, 1502, ca 1, fi), (wz, 142, 1502, ca 1, fz), (jnx, 143, 1502, ca 1, fn), (jkf, 144, 1502, ca 1, fa), (jks, 145, 1502, ca 1, fs), (jun, 146, 3000, ca 1, fu), (tx_, 173, 1500, ca 1, ft)]) [0, 1, 2, 3, 4, 5, 6, 7] rfl rfl (I1 := [(jFcd, jCD dC dI ca G0 (some sp) tq)]) [0] rfl rfl).more hb_135)
      clear hh_11 ht_13 hvm_13 hz_13 hk_13 hS_13 hb_131 hb_132 hb_133 hb_134 hb_135
      obtain ⟨hr_14_0, hr_14_1, hr_14_2, hr_14_3⟩ := hr_14
      refine lv_aload_n hx hb dX11_makeChange_96 rfl (lv_at hl 3 rfl) ?_
      refine j7_read hx hb hown hK (C := RX11) (T := TX11) (N := 19) rfl hly_13_15 hlk_82 (hh_13.at 10 rfl) dX11_makeChange_97 ?_
      refine va_calli (A0 := jA base) (H0 := s.heap) (va_runV (As := [.int r_14, .ref sp]) (rest := []) ⟨hx, hb, hml, hown, hts⟩ (uX11_placeToldU l dC dI ca base B hB hAp hB3 hB6 hB13 hB140 hB141 hB142 hB143 hB144 hB145 hB146 hB173 G0 H_13 r0 r_14 sp n_sp js pv pu wk wi wz jnx jkf jks jun pl tx_ T9 fk fi fz fn fa fs fu ft) (cwV 2 hts (jgV (jWr_28 _ (List.mem_of_getElem? (i := 20) rfl)) (jWr_28 _ (List.mem_of_getElem? (i := 21) rfl)) (jWr_28 _ (List.mem_of_getElem? (i := 22) rfl)) (jWr_1 _ (List.mem_of_getElem? (i := 2) rfl)) (jWr_28 _ (List.mem_of_getElem? (i := 23) rfl))) rfl rfl rfl (by decide +kernel) ⟨by rw [← hR]; exact Nat.le_of_ble_eq_true rfl, by rw [← hR]; exact Nat.le_of_ble_eq_true rfl⟩) ⟨fun a U g mk q => by obtain ⟨q0, q1, q2, qK, q10, q11, q12, q13, q14, q15, q16, q17, q18, q19, q20, q21, q22, q23⟩ := q; exact ⟨q0, q1, q2, jG.calling g mk a qK, q10, q11, q12, q13, q14, q15, q16, q17, q18, q19, q20, q21, q22, q23⟩, hh_13.recv (C := RX11) (T := TX11) (N := 19) hB13 rfl (by decide) hg_r0 hK, fun U hU hW => ⟨rfl, hU, hh_13.2.1, hG.step hW hU hh_13.1, hg_r0, hg_sp, hg_js, hg_wk, hg_wi, hg_wz, hg_jnx, hg_jkf, hg_jks, hg_jun, hg_tx_, (hh_13.2.2.1.sub (L1 := [(r0, 13, 2, .ref js), (js, 6, 7, .int pv), (js, 6, 8, .int pu), (js, 6, 0, .ref wk), (js, 6, 1, .ref wi), (js, 6, 2, .ref wz), (js, 6, 3, .ref jnx), (js, 6, 4, .ref jkf), (js, 6, 5, .ref jks), (js, 6, 6, .ref jun), (sp, 3, 3, .int pl), (sp, 3, 2, .ref tx_)]) [0, 1, 2, 3, 4, 5, 6, 7, 8, 9, 11, 12] rfl), (hh_13.2.2.2.2.2.2.2.1.sub (L1 := [(wk, 140, 1502, ca 1, fk), (wi, 141, 1502, ca 1, fi), (wz, 142, 1502, ca 1, fz), (jnx, 143, 1502, ca 1, fn), (jkf, 144, 1502, ca 1, fa), (jks, 145, 1502, ca 1, fs), (jun, 146, 3000, ca 1, fu), (tx_, 173, 1500, ca 1, ft)]) [0, 1, 2, 3, 4, 5, 6, 7] rfl), by first | omega | (refine ⟨?_, ?_, ?_, ?_, ?_, ?_, ?_, ?_, ?_⟩ <;> (first | omega | rfl | assumption | decide | exact Or.inl rfl | exact Or.inr rfl | (simp only; omega)))⟩⟩ rfl rfl hl.1 rfl (lv_room (Nat.le_of_ble_eq_true rfl)) dX11_makeChange_100 ⟨Nat.zero_le _, Nat.zero_le _⟩) hh_13.1 (fun q _ h => h) (fun q h => h) (fun r_16 u_15 t_15 H_15 locs_15 ht_15 hvm_15 hr_16 hb_15 hz_15 hk_15 hS_15 => ?_)
      rw [ht_15] at hb_15
      obtain ⟨hb_151, hb_152, hb_153, hb_154, hb_155⟩ := hb_15
      have hh_15 : jSt (dC, dI) B base G0 G0 EX11_makeChangeU s.heap 0 0 [(r0, 13, 2, .ref js), (js, 6, 7, .int pv), (js, 6, 8, .int pu), (js, 6, 0, .ref wk), (js, 6, 1, .ref wi), (js, 6, 2, .ref wz), (js, 6, 3, .ref jnx), (js, 6, 4, .ref jkf), (js, 6, 5, .ref jks), (js, 6, 6, .ref jun), (r0, 13, 15, .ref sp), (sp, 3, 3, .int pl), (sp, 3, 2, .ref tx_)] [(wk, 140, 1502, ca 1, fk), (wi, 141, 1502, ca 1, fi), (wz, 142, 1502, ca 1, fz), (jnx, 143, 1502, ca 1, fn), (jkf, 144, 1502, ca 1, fa), (jks, 145, 1502, ca 1, fs), (jun, 146, 3000, ca 1, fu), (tx_, 173, 1500, ca 1, ft)] [(jFcd, jCD dC dI ca G0 (some sp) tq)] H_15 locs_15 := ((hh_13.call hb_151 hb_152 hb_153 hb_154 hS_15 rfl (L1 := [(r0, 13, 2, .ref js), (js, 6, 7, .int pv), (js, 6, 8, .int pu), (js, 6, 0, .ref wk), (js, 6, 1, .ref wi), (js, 6, 2, .ref wz), (js, 6, 3, .ref jnx), (js, 6, 4, .ref jkf), (js, 6, 5, .ref jks), (js, 6, 6, .ref jun), (r0, 13, 15, .ref sp), (sp, 3, 3, .int pl), (sp, 3, 2, .ref tx_)]) [0, 1, 2, 3, 4, 5, 6, 7, 8, 9, 10, 11, 12] rfl rfl (M1 := [(wk, 140, 1502, ca 1, fk), (wi, 141, 1502, ca 1, fi), (wz, 142, 1502, ca 1, fz), (jnx, 143, 1502, ca 1, fn), (jkf, 144, 1502, ca 1, fa), (jks, 145, 1502, ca 1, fs), (jun, 146, 3000, ca 1, fu), (tx_, 173, 1500, ca 1, ft)]) [0, 1, 2, 3, 4, 5, 6, 7] rfl rfl (I1 := [(jFcd, jCD dC dI ca G0 (some sp) tq)]) [0] rfl rfl).more hb_155)
      clear hh_13 ht_15 hvm_15 hz_15 hk_15 hS_15 hb_151 hb_152 hb_153 hb_154 hb_155
      obtain ⟨hr_16_0, hr_16_1, hr_16_2⟩ := hr_16
      refine lv_istore (lv' := [(5, .int r_16), (4, .int r_12), (3, .int r_4), (2, .int r_2), (0, .ref r0), (1, .int a1)]) hx hb dX11_makeChange_103 hl (by decide) rfl (fun ls hl => ?_)
      refine lv_iload hx hb dX11_makeChange_105 (lv_at hl 1 rfl) ?_
      refine lv_if_lt (tgt := 140) hx hb dX11_makeChange_107 (by decide) (fun c_17 => ?_) (fun c_17 => ?_)
      · skip
        have c_17' : r_12.toInt < 0 := jb_lt (rfl) ((by decide)) c_17
        first | (have hr_10_2q := hr_10_2.resolve_left (by omega); clear hr_10_2) | (have hr_10_2q := hr_10_2.resolve_right (by omega); clear hr_10_2) | try clear hr_10_2
        refine lv_iconst (v := 0) hx hb dX11_makeChange_140 (by decide) ?_
        rw [hQ]
        exact W.zret (v := 0) hx hb hr (jb_nz (Or.inl rfl)) (fun t ht hW => ⟨⟨0, (pl, ft), rfl, ⟨(Or.inl rfl), by (try dsimp only); exact ⟨Or.inr ⟨r_2.toInt, by omega, by omega, by omega, by omega⟩, jdA.no hk0 (jdO.n hr_2_3 (jdS.r hr_4_3 (by omega) hr_10_3 hr_14_3 hr_12_2 hr_16_2) (fun q => by have h9 := q.2; omega)), ⟨by omega, by omega⟩⟩⟩, ⟨⟨hh_15.rt (M1 := [(sp, 3, 3, .int pl)]) [11] rfl ht, by rw [ht]; exact hh_15.2.2.2.2.2.2.2.1.sub [7] rfl⟩, by rw [ht]; exact hh_15.2.2.2.2.2.2.2.2.sub (L1 := [(jFcd, jCD dC dI ca G0 (some sp) tq)]) [0] rfl⟩⟩, by rw [ht]; try exact hh_15.1.1, fun q h9 hq => by rw [ht]; try exact hh_15.1.2.1 q h9 hq⟩) hh_15.1.2.2 dX11_makeChange_141
      · skip
        have c_17' : r_12.toInt ≥ 0 := jb_lt_n (rfl) ((by decide)) c_17
        first | (have hr_10_2q := hr_10_2.resolve_left (by omega); clear hr_10_2) | (have hr_10_2q := hr_10_2.resolve_right (by omega); clear hr_10_2) | try clear hr_10_2
        refine lv_iload hx hb dX11_makeChange_110 (lv_at hl 0 rfl) ?_
        refine lv_iload hx hb dX11_makeChange_112 (lv_at hl 1 rfl) ?_
        refine lv_icmp_lt (tgt := 140) hx hb dX11_makeChange_114 (by decide) (fun c_18 => ?_) (fun c_18 => ?_)
        · skip
          have c_18' : r_16.toInt < r_12.toInt := jb_lt (rfl) (rfl) c_18
          first | (have hr_14_2q := hr_14_2.resolve_left (by omega); clear hr_14_2) | (have hr_14_2q := hr_14_2.resolve_right (by omega); clear hr_14_2) | try clear hr_14_2
          refine lv_iconst (v := 0) hx hb dX11_makeChange_140 (by decide) ?_
          rw [hQ]
          exact W.zret (v := 0) hx hb hr (jb_nz (Or.inl rfl)) (fun t ht hW => ⟨⟨0, (pl, ft), rfl, ⟨(Or.inl rfl), by (try dsimp only); exact ⟨Or.inr ⟨r_2.toInt, by omega, by omega, by omega, by omega⟩, jdA.no hk0 (jdO.n hr_2_3 (jdS.r hr_4_3 (by omega) hr_10_3 hr_14_3 hr_12_2 hr_16_2) (fun q => by have h9 := q.2; omega)), ⟨by omega, by omega⟩⟩⟩, ⟨⟨hh_15.rt (M1 := [(sp, 3, 3, .int pl)]) [11] rfl ht, by rw [ht]; exact hh_15.2.2.2.2.2.2.2.1.sub [7] rfl⟩, by rw [ht]; exact hh_15.2.2.2.2.2.2.2.2.sub (L1 := [(jFcd, jCD dC dI ca G0 (some sp) tq)]) [0] rfl⟩⟩, by rw [ht]; try exact hh_15.1.1, fun q h9 hq => by rw [ht]; try exact hh_15.1.2.1 q h9 hq⟩) hh_15.1.2.2 dX11_makeChange_141
        · skip
          have c_18' : r_16.toInt ≥ r_12.toInt := jb_lt_n (rfl) (rfl) c_18
          first | (have hr_14_2q := hr_14_2.resolve_left (by omega); clear hr_14_2) | (have hr_14_2q := hr_14_2.resolve_right (by omega); clear hr_14_2) | try clear hr_14_2
          refine lv_aload_n hx hb dX11_makeChange_117 rfl (lv_at hl 4 rfl) ?_
          refine j7_read hx hb hown hK (C := RX11) (T := TX11) (N := 19) rfl hly_13_15 hlk_82 (hh_15.at 10 rfl) dX11_makeChange_118 ?_
          refine lv_iload hx hb dX11_makeChange_121 (lv_at hl 1 rfl) ?_
          refine lv_iload hx hb dX11_makeChange_123 (lv_at hl 0 rfl) ?_
          refine lv_aload_n hx hb dX11_makeChange_125 rfl (lv_at hl 4 rfl) ?_
          refine j7_read hx hb hown hK (C := RX11) (T := TX11) (N := 19) rfl hly_13_2 hlk_28 (hh_15.at 0 rfl) dX11_makeChange_126 ?_
          refine lv_iload_n hx hb dX11_makeChange_129 rfl (lv_at hl 3 rfl) ?_
          refine va_calli (A0 := jA base) (H0 := s.heap) (va_runV (As := [.int r_12, .int r_16, .ref js, .int r_2]) (rest := []) ⟨hx, hb, hml, hown, hts⟩ (uX1_replaceU l dC dI ca base B hB hAp hB3 hB6 hB140 hB141 hB142 hB146 hB173 G0 H_15 sp r_12 r_16 js r_2 n_sp pl tx_ pv pu wk wi wz jnx jkf jks jun T9 ft tq fk fi fz fn fa fs fu ft) (cwV 4 hts (jgV (jWr_35 _ (List.mem_of_getElem? (i := 19) rfl)) (jWr_35 _ (List.mem_of_getElem? (i := 20) rfl)) (jWr_35 _ (List.mem_of_getElem? (i := 21) rfl)) (jWr_2 _ (List.mem_of_getElem? (i := 21) rfl)) (jWr_35 _ (List.mem_of_getElem? (i := 22) rfl))) rfl rfl rfl (by decide +kernel) ⟨by rw [← hR]; exact Nat.le_of_ble_eq_true rfl, by rw [← hR]; exact Nat.le_of_ble_eq_true rfl⟩) ⟨fun a U g mk q => by obtain ⟨q0, q1, q2, qK, q10, q11, q12, q13, q14, q15, q16, q17, q18, q19, q20, q21, q22, q23⟩ := q; exact ⟨q0, q1, q2, jG.calling g mk a qK, q10, q11, q12, q13, q14, q15, q16, q17, q18, q19, q20, q21, q22, q23⟩, hh_15.recv (C := RX1) (T := TX1) (N := 17) hB3 rfl (by decide) hg_sp hK, fun U hU hW => ⟨rfl, hU, hh_15.2.1, hG.step hW hU hh_15.1, hg_sp, hg_js, hg_tx_, hg_wk, hg_wi, hg_wz, hg_jnx, hg_jkf, hg_jks, hg_jun, (hh_15.2.2.1.sub (L1 := [(sp, 3, 3, .int pl), (sp, 3, 2, .ref tx_), (js, 6, 7, .int pv), (js, 6, 8, .int pu), (js, 6, 0, .ref wk), (js, 6, 1, .ref wi), (js, 6, 2, .ref wz), (js, 6, 3, .ref jnx), (js, 6, 4, .ref jkf), (js, 6, 5, .ref jks), (js, 6, 6, .ref jun)]) [11, 12, 1, 2, 3, 4, 5, 6, 7, 8, 9] rfl), (hh_15.2.2.2.2.2.2.2.1.sub (L1 := [(wk, 140, 1502, ca 1, fk), (wi, 141, 1502, ca 1, fi), (wz, 142, 1502, ca 1, fz), (jnx, 143, 1502, ca 1, fn), (jkf, 144, 1502, ca 1, fa), (jks, 145, 1502, ca 1, fs), (jun, 146, 3000, ca 1, fu), (tx_, 173, 1500, ca 1, ft)]) [0, 1, 2, 3, 4, 5, 6, 7] rfl), (hh_15.2.2.2.2.2.2.2.2.sub (L1 := [(jFcd, jCD dC dI ca G0 (some sp) tq)]) [0] rfl), by first | omega | (refine ⟨?_, ?_, ?_, ?_, ?_, ?_, ?_, ?_, ?_, ?_, ?_, ?_, ?_⟩ <;> (first | omega | rfl | assumption | decide | exact Or.inl rfl | exact Or.inr rfl | (simp only; omega)))⟩⟩ rfl rfl hl.1 rfl (lv_room (Nat.le_of_ble_eq_true rfl)) dX11_makeChange_130 ⟨Nat.zero_le _, Nat.zero_le _⟩) hh_15.1 (fun q _ h => h) (fun q h => h) (fun r_20 u_19 t_19 H_19 locs_19 ht_19 hvm_19 hr_20 hb_19 hz_19 hk_19 hS_19 => ?_)
          obtain ⟨ql_19, gt_19⟩ := u_19
          rw [ht_19] at hb_19
          obtain ⟨hb_19, hbE_19⟩ := hb_19
          obtain ⟨⟨hb_191, hb_192, hb_193, hb_194, hb_195⟩, hb_196⟩ := hb_19
          have hh_19 : jSt (dC, dI) B base G0 G0 EX11_makeChangeU s.heap 0 0 [(sp, 3, 3, .int ql_19), (r0, 13, 2, .ref js), (js, 6, 7, .int pv), (js, 6, 8, .int pu), (js, 6, 0, .ref wk), (js, 6, 1, .ref wi), (js, 6, 2, .ref wz), (js, 6, 3, .ref jnx), (js, 6, 4, .ref jkf), (js, 6, 5, .ref jks), (js, 6, 6, .ref jun), (r0, 13, 15, .ref sp), (sp, 3, 2, .ref tx_)] [(tx_, 173, 1500, ca 1, gt_19), (wk, 140, 1502, ca 1, fk), (wi, 141, 1502, ca 1, fi), (wz, 142, 1502, ca 1, fz), (jnx, 143, 1502, ca 1, fn), (jkf, 144, 1502, ca 1, fa), (jks, 145, 1502, ca 1, fs), (jun, 146, 3000, ca 1, fu)] [(jFcd, jCD dC dI ca G0 (some sp) tq)] H_19 locs_19 := (((hh_15.call hb_191 hb_192 hb_193 hb_194 hS_19 rfl (L1 := [(r0, 13, 2, .ref js), (js, 6, 7, .int pv), (js, 6, 8, .int pu), (js, 6, 0, .ref wk), (js, 6, 1, .ref wi), (js, 6, 2, .ref wz), (js, 6, 3, .ref jnx), (js, 6, 4, .ref jkf), (js, 6, 5, .ref jks), (js, 6, 6, .ref jun), (r0, 13, 15, .ref sp), (sp, 3, 2, .ref tx_)]) [0, 1, 2, 3, 4, 5, 6, 7, 8, 9, 10, 12] rfl rfl (M1 := [(wk, 140, 1502, ca 1, fk), (wi, 141, 1502, ca 1, fi), (wz, 142, 1502, ca 1, fz), (jnx, 143, 1502, ca 1, fn), (jkf, 144, 1502, ca 1, fa), (jks, 145, 1502, ca 1, fs), (jun, 146, 3000, ca 1, fu)]) [0, 1, 2, 3, 4, 5, 6] rfl rfl (I1 := []) [] rfl rfl).more hb_195).moreM hb_196).addIs hbE_19
          clear hh_15 ht_19 hvm_19 hz_19 hk_19 hS_19 hb_191 hb_192 hb_193 hb_194 hb_195
          clear hb_196
          clear  hbE_19
          try simp only at hr_20
          obtain ⟨hr_20b, hr_20p⟩ := hr_20
          have hr130 := hr_20p
          have hr_20' := jb_01 hr_20b
          refine lv_if_eq (tgt := 140) hx hb dX11_makeChange_133 (by decide) (fun c_21 => ?_) (fun c_21 => ?_)
          · skip
            have c_21' : r_20.toInt = 0 := jb_eq (rfl) ((by decide)) c_21
            first | (have hr_2_2q := hr_2_2.resolve_left (by omega); clear hr_2_2) | (have hr_2_2q := hr_2_2.resolve_right (by omega); clear hr_2_2) | skip
            first | (have hr_20pq := hr_20p.resolve_left (by omega); clear hr_20p) | (have hr_20pq := hr_20p.resolve_right (by omega); clear hr_20p) | skip
            refine lv_iconst (v := 0) hx hb dX11_makeChange_140 (by decide) ?_
            rw [hQ]
            exact W.zret (v := 0) hx hb hr (jb_nz (Or.inl rfl)) (fun t ht hW => ⟨⟨0, (ql_19, gt_19), rfl, ⟨(Or.inl rfl), by (try dsimp only); exact ⟨Or.inr ⟨r_2.toInt, by omega, by omega, by omega, by omega⟩, jdA.of hr_2_3 (by rw [← hr_6_1]; omega) (jdS.r hr_4_3 (by omega) hr_10_3 hr_14_3 hr_12_2 hr_16_2) (by omega) (by omega) (by rw [hr_16_2]; exact jdT.le (by omega)) hz9 (by have h9 := hr130; rcases h9 with ⟨a, b⟩ | ⟨a, b⟩; exact Or.inl ⟨(by omega), b⟩; exact Or.inr ⟨hk0, b⟩), jdBd (by omega) (by omega) hr130⟩⟩, ⟨⟨hh_19.rt (M1 := [(sp, 3, 3, .int ql_19)]) [0] rfl ht, by rw [ht]; exact hh_19.2.2.2.2.2.2.2.1.sub [0] rfl⟩, by rw [ht]; exact hh_19.2.2.2.2.2.2.2.2.sub (L1 := [(jFcd, jCD dC dI ca G0 (some sp) tq)]) [0] rfl⟩⟩, by rw [ht]; try exact hh_19.1.1, fun q h9 hq => by rw [ht]; try exact hh_19.1.2.1 q h9 hq⟩) hh_19.1.2.2 dX11_makeChange_141
          · skip
            have c_21' : r_20.toInt ≠ 0 := jb_eq_n (rfl) ((by decide)) c_21
            first | (have hr_2_2q := hr_2_2.resolve_left (by omega); clear hr_2_2) | (have hr_2_2q := hr_2_2.resolve_right (by omega); clear hr_2_2) | skip
            first | (have hr_20pq := hr_20p.resolve_left (by omega); clear hr_20p) | (have hr_20pq := hr_20p.resolve_right (by omega); clear hr_20p) | skip
            refine lv_iconst (v := 1) hx hb dX11_makeChange_136 (by decide) ?_
            refine lv_goto (tgt := 141) hx hb dX11_makeChange_137 (by decide) ?_
            rw [hQ]
            exact W.zret (v := 1) hx hb hr (jb_nz (Or.inr rfl)) (fun t ht hW => ⟨⟨1, (ql_19, gt_19), rfl, ⟨(Or.inr rfl), by (try dsimp only); exact ⟨Or.inr ⟨r_2.toInt, by omega, by omega, by omega, by omega⟩, jdA.of hr_2_3 (by rw [← hr_6_1]; omega) (jdS.r hr_4_3 (by omega) hr_10_3 hr_14_3 hr_12_2 hr_16_2) (by omega) (by omega) (by rw [hr_16_2]; exact jdT.le (by omega)) hz9 (by have h9 := hr130; rcases h9 with ⟨a, b⟩ | ⟨a, b⟩; exact Or.inl ⟨hk1, b⟩; exact Or.inr ⟨(by omega), b⟩), jdBd (by omega) (by omega) hr130⟩⟩, ⟨⟨hh_19.rt (M1 := [(sp, 3, 3, .int ql_19)]) [0] rfl ht, by rw [ht]; exact hh_19.2.2.2.2.2.2.2.1.sub [0] rfl⟩, by rw [ht]; exact hh_19.2.2.2.2.2.2.2.2.sub (L1 := [(jFcd, jCD dC dI ca G0 (some sp) tq)]) [0] rfl⟩⟩, by rw [ht]; try exact hh_19.1.1, fun q h9 hq => by rw [ht]; try exact hh_19.1.2.1 q h9 hq⟩) hh_19.1.2.2 dX11_makeChange_141
    · skip
      have c_8' : r_4.toInt < 0 := jb_ge_n (rfl) ((by decide)) c_8
      first | (have hr_2_2q := hr_2_2.resolve_left (by omega); clear hr_2_2) | (have hr_2_2q := hr_2_2.resolve_right (by omega); clear hr_2_2) | skip
      first | (have hr_4_2q := hr_4_2.resolve_left (by omega); clear hr_4_2) | (have hr_4_2q := hr_4_2.resolve_right (by omega); clear hr_4_2) | skip
      refine lv_aload_n hx hb dX11_makeChange_42 rfl (lv_at hl 2 rfl) ?_
      refine j7_read hx hb hown hK (C := RX11) (T := TX11) (N := 19) rfl hly_13_15 hlk_82 (hh_5.at 10 rfl) dX11_makeChange_43 ?_
      refine lv_iconst (v := 0) hx hb dX11_makeChange_46 (by decide) ?_
      refine lv_aload_n hx hb dX11_makeChange_47 rfl (lv_at hl 2 rfl) ?_
      refine j7_read hx hb hown hK (C := RX11) (T := TX11) (N := 19) rfl hly_13_15 hlk_82 (hh_5.at 10 rfl) dX11_makeChange_48 ?_
      refine j7_read hx hb hown hK (C := RX1) (T := TX1) (N := 17) rfl hly_3_3 hlk_165 (hh_5.at 11 rfl) dX11_makeChange_51 ?_
      refine lv_aload_n hx hb dX11_makeChange_54 rfl (lv_at hl 2 rfl) ?_
      refine j7_read hx hb hown hK (C := RX11) (T := TX11) (N := 19) rfl hly_13_2 hlk_28 (hh_5.at 0 rfl) dX11_makeChange_55 ?_
      refine lv_iload_n hx hb dX11_makeChange_58 rfl (lv_at hl 1 rfl) ?_
      refine va_calli (A0 := jA base) (H0 := s.heap) (va_runV (As := [.int 0, .int pl, .ref js, .int r_2]) (rest := []) ⟨hx, hb, hml, hown, hts⟩ (uX1_replaceU l dC dI ca base B hB hAp hB3 hB6 hB140 hB141 hB142 hB146 hB173 G0 H_5 sp 0 pl js r_2 n_sp pl tx_ pv pu wk wi wz jnx jkf jks jun T9 ft tq fk fi fz fn fa fs fu ft) (cwV 4 hts (jgV (jWr_35 _ (List.mem_of_getElem? (i := 19) rfl)) (jWr_35 _ (List.mem_of_getElem? (i := 20) rfl)) (jWr_35 _ (List.mem_of_getElem? (i := 21) rfl)) (jWr_2 _ (List.mem_of_getElem? (i := 21) rfl)) (jWr_35 _ (List.mem_of_getElem? (i := 22) rfl))) rfl rfl rfl (by decide +kernel) ⟨by rw [← hR]; exact Nat.le_of_ble_eq_true rfl, by rw [← hR]; exact Nat.le_of_ble_eq_true rfl⟩) ⟨fun a U g mk q => by obtain ⟨q0, q1, q2, qK, q10, q11, q12, q13, q14, q15, q16, q17, q18, q19, q20, q21, q22, q23⟩ := q; exact ⟨q0, q1, q2, jG.calling g mk a qK, q10, q11, q12, q13, q14, q15, q16, q17, q18, q19, q20, q21, q22, q23⟩, hh_5.recv (C := RX1) (T := TX1) (N := 17) hB3 rfl (by decide) hg_sp hK, fun U hU hW => ⟨rfl, hU, hh_5.2.1, hG.step hW hU hh_5.1, hg_sp, hg_js, hg_tx_, hg_wk, hg_wi, hg_wz, hg_jnx, hg_jkf, hg_jks, hg_jun, (hh_5.2.2.1.sub (L1 := [(sp, 3, 3, .int pl), (sp, 3, 2, .ref tx_), (js, 6, 7, .int pv), (js, 6, 8, .int pu), (js, 6, 0, .ref wk), (js, 6, 1, .ref wi), (js, 6, 2, .ref wz), (js, 6, 3, .ref jnx), (js, 6, 4, .ref jkf), (js, 6, 5, .ref jks), (js, 6, 6, .ref jun)]) [11, 12, 1, 2, 3, 4, 5, 6, 7, 8, 9] rfl), (hh_5.2.2.2.2.2.2.2.1.sub (L1 := [(wk, 140, 1502, ca 1, fk), (wi, 141, 1502, ca 1, fi), (wz, 142, 1502, ca 1, fz), (jnx, 143, 1502, ca 1, fn), (jkf, 144, 1502, ca 1, fa), (jks, 145, 1502, ca 1, fs), (jun, 146, 3000, ca 1, fu), (tx_, 173, 1500, ca 1, ft)]) [0, 1, 2, 3, 4, 5, 6, 7] rfl), (hh_5.2.2.2.2.2.2.2.2.sub (L1 := [(jFcd, jCD dC dI ca G0 (some sp) tq)]) [0] rfl), by first | omega | (refine ⟨?_, ?_, ?_, ?_, ?_, ?_, ?_, ?_, ?_, ?_, ?_, ?_, ?_⟩ <;> (first | omega | rfl | assumption | decide | exact Or.inl rfl | exact Or.inr rfl | (simp only; omega)))⟩⟩ rfl rfl hl.1 rfl (lv_room (Nat.le_of_ble_eq_true rfl)) dX11_makeChange_59 ⟨Nat.zero_le _, Nat.zero_le _⟩) hh_5.1 (fun q _ h => h) (fun q h => h) (fun r_23 u_22 t_22 H_22 locs_22 ht_22 hvm_22 hr_23 hb_22 hz_22 hk_22 hS_22 => ?_)
      obtain ⟨ql_22, gt_22⟩ := u_22
      rw [ht_22] at hb_22
      obtain ⟨hb_22, hbE_22⟩ := hb_22
      obtain ⟨⟨hb_221, hb_222, hb_223, hb_224, hb_225⟩, hb_226⟩ := hb_22
      have hh_22 : jSt (dC, dI) B base G0 G0 EX11_makeChangeU s.heap 0 0 [(sp, 3, 3, .int ql_22), (r0, 13, 2, .ref js), (js, 6, 7, .int pv), (js, 6, 8, .int pu), (js, 6, 0, .ref wk), (js, 6, 1, .ref wi), (js, 6, 2, .ref wz), (js, 6, 3, .ref jnx), (js, 6, 4, .ref jkf), (js, 6, 5, .ref jks), (js, 6, 6, .ref jun), (r0, 13, 15, .ref sp), (sp, 3, 2, .ref tx_)] [(tx_, 173, 1500, ca 1, gt_22), (wk, 140, 1502, ca 1, fk), (wi, 141, 1502, ca 1, fi), (wz, 142, 1502, ca 1, fz), (jnx, 143, 1502, ca 1, fn), (jkf, 144, 1502, ca 1, fa), (jks, 145, 1502, ca 1, fs), (jun, 146, 3000, ca 1, fu)] [(jFcd, jCD dC dI ca G0 (some sp) tq)] H_22 locs_22 := (((hh_5.call hb_221 hb_222 hb_223 hb_224 hS_22 rfl (L1 := [(r0, 13, 2, .ref js), (js, 6, 7, .int pv), (js, 6, 8, .int pu), (js, 6, 0, .ref wk), (js, 6, 1, .ref wi), (js, 6, 2, .ref wz), (js, 6, 3, .ref jnx), (js, 6, 4, .ref jkf), (js, 6, 5, .ref jks), (js, 6, 6, .ref jun), (r0, 13, 15, .ref sp), (sp, 3, 2, .ref tx_)]) [0, 1, 2, 3, 4, 5, 6, 7, 8, 9, 10, 12] rfl rfl (M1 := [(wk, 140, 1502, ca 1, fk), (wi, 141, 1502, ca 1, fi), (wz, 142, 1502, ca 1, fz), (jnx, 143, 1502, ca 1, fn), (jkf, 144, 1502, ca 1, fa), (jks, 145, 1502, ca 1, fs), (jun, 146, 3000, ca 1, fu)]) [0, 1, 2, 3, 4, 5, 6] rfl rfl (I1 := []) [] rfl rfl).more hb_225).moreM hb_226).addIs hbE_22
      clear hh_5 ht_22 hvm_22 hz_22 hk_22 hS_22 hb_221 hb_222 hb_223 hb_224 hb_225
      clear hb_226
      clear  hbE_22
      try simp only at hr_23
      obtain ⟨hr_23b, hr_23p⟩ := hr_23
      have hr_23' := jb_01 hr_23b
      rw [hQ]
      exact W.zret (v := r_23) hx hb hr (jb_nz (hr_23b)) (fun t ht hW => ⟨⟨r_23, (ql_22, gt_22), rfl, ⟨(hr_23b), by (try dsimp only); exact ⟨Or.inr ⟨r_2.toInt, by omega, by omega, by omega, by omega⟩, jdA.of hr_2_3 (by rw [← hr_6_1]; omega) (jdS.w hr_4_3 (by omega)) (Int.le_refl 0) (by omega) (Int.le_refl _) hz9 hr_23p, jdBd (by omega) (by omega) hr_23p⟩⟩, ⟨⟨hh_22.rt (M1 := [(sp, 3, 3, .int ql_22)]) [0] rfl ht, by rw [ht]; exact hh_22.2.2.2.2.2.2.2.1.sub [0] rfl⟩, by rw [ht]; exact hh_22.2.2.2.2.2.2.2.2.sub (L1 := [(jFcd, jCD dC dI ca G0 (some sp) tq)]) [0] rfl⟩⟩, by rw [ht]; try exact hh_22.1.1, fun q h9 hq => by rw [ht]; try exact hh_22.1.2.1 q h9 hq⟩) hh_22.1.2.2 dX11_makeChange_62
  · skip
    have c_7' : r_6.toInt ≠ 3 := jb_eq_n (rfl) ((by decide)) c_7
    try clear hr_6_0
    refine lv_iconst (v := 0) hx hb dX11_makeChange_36 (by decide) ?_
    rw [hQ]
    exact W.zret (v := 0) hx hb hr (jb_nz (Or.inl rfl)) (fun t ht hW => ⟨⟨0, (pl, ft), rfl, ⟨(Or.inl rfl), by (try dsimp only); exact ⟨Or.inl (by first | rfl | decide), jdA.no hk0 (jdO.k hr_2_3 (by rw [← hr_6_1]; omega)), ⟨by omega, by omega⟩⟩⟩, ⟨⟨hh_5.rt (M1 := [(sp, 3, 3, .int pl)]) [11] rfl ht, by rw [ht]; exact hh_5.2.2.2.2.2.2.2.1.sub [7] rfl⟩, by rw [ht]; exact hh_5.2.2.2.2.2.2.2.2.sub (L1 := [(jFcd, jCD dC dI ca G0 (some sp) tq)]) [0] rfl⟩⟩, by rw [ht]; try exact hh_5.1.1, fun q h9 hq => by rw [ht]; try exact hh_5.1.2.1 q h9 hq⟩) hh_5.1.2.2 dX11_makeChange_37
end
section
-- p9: a change looks only at the units below the length
theorem jdTn {T : Nat → Int → Int} {v u : Int} {fk fi fz fn fa fs fu : Nat → Int32} (h : jjTC T v u fk fi fz fn fa fs fu) (hr : jqR fk fi fz fa fs v u) : ∀ x, jqK T v x = 3 → 0 ≤ T 3 x := fun x hx => by
  have hp := jqK.p (T := T) (v := v) (i := x) (by omega)
  have h1 := (hr x hp.1 hp.2.1).2 (by rw [← h.1 x hp.1 hp.2.1, ← hp.2.2]; exact hx)
  rw [h.2.2.1 x hp.1 hp.2.1]
  exact h1.2.1
end
