section
def EX14_isStringK : List (Nat × Nat) := []
def EX14_isWholeK : List (Nat × Nat) := []
def EX14_isIdK : List (Nat × Nat) := []
set_option maxHeartbeats 4000000 in
set_option maxRecDepth 20000 in
theorem uX14_isStringK (l : Launch) (dC : Nat → ClassId) (dI : Nat → Nat → Nat) (ca : Nat → ClassId) (base : Nat) (B : jF) (hB : jBok B) (hAp : jAp (dC, dI)) (hB16 : ∀ n G a H, B 16 n G a H ↔ jOb (dC, dI) 16 74 (F16 n G) a H) (hB117 : ∀ n G a H, B 117 n G a H ↔ jAr (dC, dI) (ca 1) (fun j z => True) n a H) (G0 : jT) (H0 : Heap) (r0 : Nat) (a1 : Int32) (zm : Nat) (fs : Nat → Int32) : Met l yX14_isString (jw yX14_isString cX14_isString 2 (some .boolean)) ({ frames := 0, cells := 0, slots := 0, locals := 0 }) (va_Pc [.ref r0, .int a1] (fun U => U.heap = H0 ∧ jX B base G0 [] H0 ∧ jG dC dI ca base U ∧ G0 r0 = some (16, 0) ∧ G0 zm = some (117, 3100) ∧ jP (dC, dI) G0 H0 [(r0, 16, 17, .ref zm)] ∧ jMc (dC, dI) G0 H0 [(zm, 117, 3100, ca 1, fs)] ∧ a1.toInt ≤ 3099)) (va_Qi (S := Unit) (fun r u => (r = 0 ∨ r = 1) ∧ (0 ≤ r.toInt ∧ r.toInt ≤ 1 ∧ (r.toInt = 1 → 0 ≤ a1.toInt ∧ jSo fs a1.toInt = 4))) (fun u t => jRt (dC, dI) B base G0 EX14_isStringK H0 [] t.heap) (jA base)) 0 0 (jA base) := by
  refine Met.ofW (cc := cX14_isString) (maxL := 2) (ret := (some .boolean)) (by decide) rfl ?_
  intro p e s m args below meth c s₁ Bd hml hv
  obtain ⟨rfl, hH0, hX, hG, hg_r0, hg_zm, hP0, hM0, hp0⟩ := hv
  have hK := hG.1
  have hx := Bd.exec
  have hb := Bd.bytes
  have hr := Bd.returns
  have hts := atoms_spec (ws := (jw yX14_isString cX14_isString 2 (some .boolean))) Bd.pre
  have htw : ∀ w ∈ jWl, w.before _ s = true := fun w h => hts w (List.mem_cons_of_mem _ h)
  have hown : s.vm.findClass RX14 = some m.cls := findClass_of_methodNamed Bd.named
  have hlocks := Bd.notSynchronized
  obtain ⟨Q, hQ⟩ : ∃ Q, Q = MQ below (va_Qi (S := Unit) (fun r u => (r = 0 ∨ r = 1) ∧ (0 ≤ r.toInt ∧ r.toInt ≤ 1 ∧ (r.toInt = 1 → 0 ≤ a1.toInt ∧ jSo fs a1.toInt = 4))) (fun u t => jRt (dC, dI) B base G0 EX14_isStringK H0 [] t.heap) (jA base)) ([.ref r0, .int a1] : List Value).toArray s 0 0 (jA base) := ⟨_, rfl⟩
  rw [← hQ]
  have hl := lv_entry ([.ref r0, .int a1]) (n := 2) (Nat.le_of_ble_eq_true rfl)
  rw [lg_entry_eq]
  generalize (lg_sl ([.ref r0, .int a1]) ++ List.replicate (2 - (lg_sl ([.ref r0, .int a1])).length) Slot.unset).toArray = ls at hl ⊢
  have hl : lv_has ls 2 [(0, .ref r0), (1, .int a1)] := hl
  generalize hR : (headSpec (jw yX14_isString cX14_isString 2 (some .boolean)) ({ frames := 0, cells := 0, slots := 0, locals := 0 })).room = R
  subst hH0
  have hh : jSt (dC, dI) B base G0 G0 EX14_isStringK s.heap 0 0 [(r0, 16, 17, .ref zm)] [(zm, 117, 3100, ca 1, fs)] [] s.heap [] := jSt.start hX hP0 hM0 jIs.nil
  clear hX hP0
  have hk0 : (0 : Int32).toInt = 0 := by decide
  have hk1 : (1 : Int32).toInt = 1 := by decide
  have hk4 : (4 : Int32).toInt = 4 := by decide
  have hly_16_17 := htw (u_lay RX14 TX14 17) (jWc_wsX140 _ (u_in_lay (by decide)))
  have hlk_37 := (htw (.fieldLink RX14 37 "ProofServerModel" "sort" "[I") (jWr_11 _ (List.mem_of_getElem? (i := 4) rfl)))
  have hrg_a1 := jb_rng a1
  refine lv_iload_n hx hb dX14_isString_0 rfl (lv_at hl 1 rfl) ?_
  refine lv_if_lt (tgt := 18) hx hb dX14_isString_1 (by decide) (fun c_1 => ?_) (fun c_1 => ?_)
  · skip
    have c_1' : a1.toInt < 0 := jb_lt (rfl) ((by decide)) c_1
    refine lv_iconst (v := 0) hx hb dX14_isString_18 (by decide) ?_
    rw [hQ]
    exact W.zret (v := 0) hx hb hr (jb_nz (Or.inl rfl)) (fun t ht hW => ⟨⟨0, (), rfl, ⟨(Or.inl rfl), by first | omega | (refine ⟨?_, ?_, ?_⟩ <;> (first | omega | rfl | assumption | decide | exact Or.inl rfl | exact Or.inr rfl | (simp only; omega)))⟩, hh.rt (M1 := []) [] rfl ht⟩, by rw [ht]; try exact hh.1.1, fun q h9 hq => by rw [ht]; try exact hh.1.2.1 q h9 hq⟩) hh.1.2.2 dX14_isString_19
  · skip
    have c_1' : a1.toInt ≥ 0 := jb_lt_n (rfl) ((by decide)) c_1
    refine lv_aload_n hx hb dX14_isString_4 rfl (lv_at hl 0 rfl) ?_
    refine j7_read hx hb hown hK (C := RX14) (T := TX14) (N := 74) rfl hly_16_17 hlk_37 (hh.at 0 rfl) dX14_isString_5 ?_
    refine lv_iload_n hx hb dX14_isString_8 rfl (lv_at hl 1 rfl) ?_
    refine j7_ialdM hx hb hK hh hB117 1 rfl (by decide) hg_zm (x := a1.toInt) (rfl) (by omega) (j := 0) rfl dX14_isString_9 (fun z_2 ez_2 (hz_2 : True) => ?_)
    have hqz_2 : z_2.toInt = jSo fs (a1.toInt) := by unfold jSo; rw [ez_2]
    refine lv_iconst (v := 4) hx hb dX14_isString_10 (by decide) ?_
    refine lv_icmp_ne (tgt := 18) hx hb dX14_isString_11 (by decide) (fun c_3 => ?_) (fun c_3 => ?_)
    · skip
      have c_3' : z_2.toInt ≠ 4 := jb_ne (rfl) ((by decide)) c_3
      refine lv_iconst (v := 0) hx hb dX14_isString_18 (by decide) ?_
      rw [hQ]
      exact W.zret (v := 0) hx hb hr (jb_nz (Or.inl rfl)) (fun t ht hW => ⟨⟨0, (), rfl, ⟨(Or.inl rfl), by first | omega | (refine ⟨?_, ?_, ?_⟩ <;> (first | omega | rfl | assumption | decide | exact Or.inl rfl | exact Or.inr rfl | (simp only; omega)))⟩, hh.rt (M1 := []) [] rfl ht⟩, by rw [ht]; try exact hh.1.1, fun q h9 hq => by rw [ht]; try exact hh.1.2.1 q h9 hq⟩) hh.1.2.2 dX14_isString_19
    · skip
      have c_3' : z_2.toInt = 4 := jb_ne_n (rfl) ((by decide)) c_3
      refine lv_iconst (v := 1) hx hb dX14_isString_14 (by decide) ?_
      refine lv_goto (tgt := 19) hx hb dX14_isString_15 (by decide) ?_
      rw [hQ]
      exact W.zret (v := 1) hx hb hr (jb_nz (Or.inr rfl)) (fun t ht hW => ⟨⟨1, (), rfl, ⟨(Or.inr rfl), by first | omega | (refine ⟨?_, ?_, ?_⟩ <;> (first | omega | rfl | assumption | decide | exact Or.inl rfl | exact Or.inr rfl | (simp only; omega)))⟩, hh.rt (M1 := []) [] rfl ht⟩, by rw [ht]; try exact hh.1.1, fun q h9 hq => by rw [ht]; try exact hh.1.2.1 q h9 hq⟩) hh.1.2.2 dX14_isString_19
set_option maxHeartbeats 4000000 in
set_option maxRecDepth 20000 in
theorem uX14_isWholeK (l : Launch) (dC : Nat → ClassId) (dI : Nat → Nat → Nat) (ca : Nat → ClassId) (base : Nat) (B : jF) (hB : jBok B) (hAp : jAp (dC, dI)) (hB16 : ∀ n G a H, B 16 n G a H ↔ jOb (dC, dI) 16 74 (F16 n G) a H) (hB117 : ∀ n G a H, B 117 n G a H ↔ jAr (dC, dI) (ca 1) (fun j z => True) n a H) (hB124 : ∀ n G a H, B 124 n G a H ↔ jAr (dC, dI) (ca 3) (fun j z => (z = 0 ∨ z = 1)) n a H) (G0 : jT) (H0 : Heap) (r0 : Nat) (a1 : Int32) (zm : Nat) (fs : Nat → Int32) : Met l yX14_isWhole (jw yX14_isWhole cX14_isWhole 2 (some .boolean)) ({ frames := 0, cells := 0, slots := 0, locals := 0 }) (va_Pc [.ref r0, .int a1] (fun U => U.heap = H0 ∧ jX B base G0 [] H0 ∧ jG dC dI ca base U ∧ G0 r0 = some (16, 0) ∧ G0 zm = some (117, 3100) ∧ jP (dC, dI) G0 H0 [(r0, 16, 17, .ref zm)] ∧ jMc (dC, dI) G0 H0 [(zm, 117, 3100, ca 1, fs)] ∧ a1.toInt ≤ 3099)) (va_Qi (S := Unit) (fun r u => (r = 0 ∨ r = 1) ∧ (0 ≤ r.toInt ∧ r.toInt ≤ 1 ∧ (r.toInt = 1 → 0 ≤ a1.toInt ∧ jSo fs a1.toInt = 3))) (fun u t => jRt (dC, dI) B base G0 EX14_isWholeK H0 [] t.heap) (jA base)) 0 0 (jA base) := by
  refine Met.ofW (cc := cX14_isWhole) (maxL := 2) (ret := (some .boolean)) (by decide) rfl ?_
  intro p e s m args below meth c s₁ Bd hml hv
  obtain ⟨rfl, hH0, hX, hG, hg_r0, hg_zm, hP0, hM0, hp0⟩ := hv
  have hK := hG.1
  have hx := Bd.exec
  have hb := Bd.bytes
  have hr := Bd.returns
  have hts := atoms_spec (ws := (jw yX14_isWhole cX14_isWhole 2 (some .boolean))) Bd.pre
  have htw : ∀ w ∈ jWl, w.before _ s = true := fun w h => hts w (List.mem_cons_of_mem _ h)
  have hown : s.vm.findClass RX14 = some m.cls := findClass_of_methodNamed Bd.named
  have hlocks := Bd.notSynchronized
  obtain ⟨Q, hQ⟩ : ∃ Q, Q = MQ below (va_Qi (S := Unit) (fun r u => (r = 0 ∨ r = 1) ∧ (0 ≤ r.toInt ∧ r.toInt ≤ 1 ∧ (r.toInt = 1 → 0 ≤ a1.toInt ∧ jSo fs a1.toInt = 3))) (fun u t => jRt (dC, dI) B base G0 EX14_isWholeK H0 [] t.heap) (jA base)) ([.ref r0, .int a1] : List Value).toArray s 0 0 (jA base) := ⟨_, rfl⟩
  rw [← hQ]
  have hl := lv_entry ([.ref r0, .int a1]) (n := 2) (Nat.le_of_ble_eq_true rfl)
  rw [lg_entry_eq]
  generalize (lg_sl ([.ref r0, .int a1]) ++ List.replicate (2 - (lg_sl ([.ref r0, .int a1])).length) Slot.unset).toArray = ls at hl ⊢
  have hl : lv_has ls 2 [(0, .ref r0), (1, .int a1)] := hl
  generalize hR : (headSpec (jw yX14_isWhole cX14_isWhole 2 (some .boolean)) ({ frames := 0, cells := 0, slots := 0, locals := 0 })).room = R
  subst hH0
  have hh : jSt (dC, dI) B base G0 G0 EX14_isWholeK s.heap 0 0 [(r0, 16, 17, .ref zm)] [(zm, 117, 3100, ca 1, fs)] [] s.heap [] := jSt.start hX hP0 hM0 jIs.nil
  clear hX hP0
  have hk0 : (0 : Int32).toInt = 0 := by decide
  have hk1 : (1 : Int32).toInt = 1 := by decide
  have hk3 : (3 : Int32).toInt = 3 := by decide
  have hly_16_17 := htw (u_lay RX14 TX14 17) (jWc_wsX140 _ (u_in_lay (by decide)))
  have hly_16_24 := htw (u_lay RX14 TX14 24) (jWc_wsX140 _ (u_in_lay (by decide)))
  have hlk_37 := (htw (.fieldLink RX14 37 "ProofServerModel" "sort" "[I") (jWr_11 _ (List.mem_of_getElem? (i := 4) rfl)))
  have hlk_58 := (htw (.fieldLink RX14 58 "ProofServerModel" "isInt" "[Z") (jWr_11 _ (List.mem_of_getElem? (i := 12) rfl)))
  have hrg_a1 := jb_rng a1
  refine lv_iload_n hx hb dX14_isWhole_0 rfl (lv_at hl 1 rfl) ?_
  refine lv_if_lt (tgt := 27) hx hb dX14_isWhole_1 (by decide) (fun c_1 => ?_) (fun c_1 => ?_)
  · skip
    have c_1' : a1.toInt < 0 := jb_lt (rfl) ((by decide)) c_1
    refine lv_iconst (v := 0) hx hb dX14_isWhole_27 (by decide) ?_
    rw [hQ]
    exact W.zret (v := 0) hx hb hr (jb_nz (Or.inl rfl)) (fun t ht hW => ⟨⟨0, (), rfl, ⟨(Or.inl rfl), by first | omega | (refine ⟨?_, ?_, ?_⟩ <;> (first | omega | rfl | assumption | decide | exact Or.inl rfl | exact Or.inr rfl | (simp only; omega)))⟩, hh.rt (M1 := []) [] rfl ht⟩, by rw [ht]; try exact hh.1.1, fun q h9 hq => by rw [ht]; try exact hh.1.2.1 q h9 hq⟩) hh.1.2.2 dX14_isWhole_28
  · skip
    have c_1' : a1.toInt ≥ 0 := jb_lt_n (rfl) ((by decide)) c_1
    refine lv_aload_n hx hb dX14_isWhole_4 rfl (lv_at hl 0 rfl) ?_
    refine j7_read hx hb hown hK (C := RX14) (T := TX14) (N := 74) rfl hly_16_17 hlk_37 (hh.at 0 rfl) dX14_isWhole_5 ?_
    refine lv_iload_n hx hb dX14_isWhole_8 rfl (lv_at hl 1 rfl) ?_
    refine j7_ialdM hx hb hK hh hB117 1 rfl (by decide) hg_zm (x := a1.toInt) (rfl) (by omega) (j := 0) rfl dX14_isWhole_9 (fun z_2 ez_2 (hz_2 : True) => ?_)
    have hqz_2 : z_2.toInt = jSo fs (a1.toInt) := by unfold jSo; rw [ez_2]
    refine lv_iconst (v := 3) hx hb dX14_isWhole_10 (by decide) ?_
    refine lv_icmp_ne (tgt := 27) hx hb dX14_isWhole_11 (by decide) (fun c_3 => ?_) (fun c_3 => ?_)
    · skip
      have c_3' : z_2.toInt ≠ 3 := jb_ne (rfl) ((by decide)) c_3
      refine lv_iconst (v := 0) hx hb dX14_isWhole_27 (by decide) ?_
      rw [hQ]
      exact W.zret (v := 0) hx hb hr (jb_nz (Or.inl rfl)) (fun t ht hW => ⟨⟨0, (), rfl, ⟨(Or.inl rfl), by first | omega | (refine ⟨?_, ?_, ?_⟩ <;> (first | omega | rfl | assumption | decide | exact Or.inl rfl | exact Or.inr rfl | (simp only; omega)))⟩, hh.rt (M1 := []) [] rfl ht⟩, by rw [ht]; try exact hh.1.1, fun q h9 hq => by rw [ht]; try exact hh.1.2.1 q h9 hq⟩) hh.1.2.2 dX14_isWhole_28
    · skip
      have c_3' : z_2.toInt = 3 := jb_ne_n (rfl) ((by decide)) c_3
      refine lv_aload_n hx hb dX14_isWhole_14 rfl (lv_at hl 0 rfl) ?_
      obtain ⟨v_4, hv_4, hh_5⟩ := hh.pin (C := RX14) (T := TX14) (N := 74) hB16 rfl (by decide) hg_r0 (i := 24) (by decide) rfl
      clear hh
      obtain ⟨isInt_6, rfl, hg_isInt_6⟩ := hv_4
      refine j7_read hx hb hown hK (C := RX14) (T := TX14) (N := 74) rfl hly_16_24 hlk_58 (hh_5.at 0 rfl) dX14_isWhole_15 ?_
      refine lv_iload_n hx hb dX14_isWhole_18 rfl (lv_at hl 1 rfl) ?_
      refine j7_zald hx hb hK hh_5 hB124 3 rfl (by decide) hg_isInt_6 (x := a1.toInt) (rfl) (by omega) dX14_isWhole_19 (fun z_7 (hz_7 : (z_7 = 0 ∨ z_7 = 1)) => ?_)
      have hz_7' := jb_01 hz_7
      refine lv_if_eq (tgt := 27) hx hb dX14_isWhole_20 (by decide) (fun c_8 => ?_) (fun c_8 => ?_)
      · skip
        have c_8' : z_7.toInt = 0 := jb_eq (rfl) ((by decide)) c_8
        refine lv_iconst (v := 0) hx hb dX14_isWhole_27 (by decide) ?_
        rw [hQ]
        exact W.zret (v := 0) hx hb hr (jb_nz (Or.inl rfl)) (fun t ht hW => ⟨⟨0, (), rfl, ⟨(Or.inl rfl), by first | omega | (refine ⟨?_, ?_, ?_⟩ <;> (first | omega | rfl | assumption | decide | exact Or.inl rfl | exact Or.inr rfl | (simp only; omega)))⟩, hh_5.rt (M1 := []) [] rfl ht⟩, by rw [ht]; try exact hh_5.1.1, fun q h9 hq => by rw [ht]; try exact hh_5.1.2.1 q h9 hq⟩) hh_5.1.2.2 dX14_isWhole_28
      · skip
        have c_8' : z_7.toInt ≠ 0 := jb_eq_n (rfl) ((by decide)) c_8
        refine lv_iconst (v := 1) hx hb dX14_isWhole_23 (by decide) ?_
        refine lv_goto (tgt := 28) hx hb dX14_isWhole_24 (by decide) ?_
        rw [hQ]
        exact W.zret (v := 1) hx hb hr (jb_nz (Or.inr rfl)) (fun t ht hW => ⟨⟨1, (), rfl, ⟨(Or.inr rfl), by first | omega | (refine ⟨?_, ?_, ?_⟩ <;> (first | omega | rfl | assumption | decide | exact Or.inl rfl | exact Or.inr rfl | (simp only; omega)))⟩, hh_5.rt (M1 := []) [] rfl ht⟩, by rw [ht]; try exact hh_5.1.1, fun q h9 hq => by rw [ht]; try exact hh_5.1.2.1 q h9 hq⟩) hh_5.1.2.2 dX14_isWhole_28
set_option maxHeartbeats 4000000 in
set_option maxRecDepth 20000 in
theorem uX14_isIdK (l : Launch) (dC : Nat → ClassId) (dI : Nat → Nat → Nat) (ca : Nat → ClassId) (base : Nat) (B : jF) (hB : jBok B) (hAp : jAp (dC, dI)) (hB16 : ∀ n G a H, B 16 n G a H ↔ jOb (dC, dI) 16 74 (F16 n G) a H) (hB117 : ∀ n G a H, B 117 n G a H ↔ jAr (dC, dI) (ca 1) (fun j z => True) n a H) (hB122 : ∀ n G a H, B 122 n G a H ↔ jAr (dC, dI) (ca 1) (fun j z => 0 ≤ z.toInt ∧ z.toInt ≤ 3100) n a H) (hB123 : ∀ n G a H, B 123 n G a H ↔ jAr (dC, dI) (ca 1) (fun j z => 0 ≤ z.toInt ∧ z.toInt ≤ 3100) n a H) (hB124 : ∀ n G a H, B 124 n G a H ↔ jAr (dC, dI) (ca 3) (fun j z => (z = 0 ∨ z = 1)) n a H) (G0 : jT) (H0 : Heap) (r0 : Nat) (a1 : Int32) (zm : Nat) (xb : Nat) (xe : Nat) (fs : Nat → Int32) (fb : Nat → Int32) (fe : Nat → Int32) : Met l yX14_isId (jw yX14_isId cX14_isId 2 (some .boolean)) ({ frames := 1, cells := 0, slots := 0, locals := 21 }) (va_Pc [.ref r0, .int a1] (fun U => U.heap = H0 ∧ jX B base G0 [] H0 ∧ jG dC dI ca base U ∧ G0 r0 = some (16, 0) ∧ G0 zm = some (117, 3100) ∧ G0 xb = some (122, 3100) ∧ G0 xe = some (123, 3100) ∧ jP (dC, dI) G0 H0 [(r0, 16, 17, .ref zm), (r0, 16, 22, .ref xb), (r0, 16, 23, .ref xe)] ∧ jMc (dC, dI) G0 H0 [(zm, 117, 3100, ca 1, fs), (xb, 122, 3100, ca 1, fb), (xe, 123, 3100, ca 1, fe)] ∧ a1.toInt ≤ 3099)) (va_Qi (S := Unit) (fun r u => (r = 0 ∨ r = 1) ∧ (0 ≤ r.toInt ∧ r.toInt ≤ 1 ∧ (r.toInt = 1 → 0 ≤ a1.toInt ∧ (jSo fs a1.toInt = 4 → jSo fe a1.toInt - jSo fb a1.toInt ≤ 20)))) (fun u t => jRt (dC, dI) B base G0 EX14_isIdK H0 [] t.heap) (jA base)) 0 0 (jA base) := by
  refine Met.ofW (cc := cX14_isId) (maxL := 2) (ret := (some .boolean)) (by decide) rfl ?_
  intro p e s m args below meth c s₁ Bd hml hv
  obtain ⟨rfl, hH0, hX, hG, hg_r0, hg_zm, hg_xb, hg_xe, hP0, hM0, hp0⟩ := hv
  have hK := hG.1
  have hx := Bd.exec
  have hb := Bd.bytes
  have hr := Bd.returns
  have hts := atoms_spec (ws := (jw yX14_isId cX14_isId 2 (some .boolean))) Bd.pre
  have htw : ∀ w ∈ jWl, w.before _ s = true := fun w h => hts w (List.mem_cons_of_mem _ h)
  have hown : s.vm.findClass RX14 = some m.cls := findClass_of_methodNamed Bd.named
  have hlocks := Bd.notSynchronized
  obtain ⟨Q, hQ⟩ : ∃ Q, Q = MQ below (va_Qi (S := Unit) (fun r u => (r = 0 ∨ r = 1) ∧ (0 ≤ r.toInt ∧ r.toInt ≤ 1 ∧ (r.toInt = 1 → 0 ≤ a1.toInt ∧ (jSo fs a1.toInt = 4 → jSo fe a1.toInt - jSo fb a1.toInt ≤ 20)))) (fun u t => jRt (dC, dI) B base G0 EX14_isIdK H0 [] t.heap) (jA base)) ([.ref r0, .int a1] : List Value).toArray s 0 0 (jA base) := ⟨_, rfl⟩
  rw [← hQ]
  have hl := lv_entry ([.ref r0, .int a1]) (n := 2) (Nat.le_of_ble_eq_true rfl)
  rw [lg_entry_eq]
  generalize (lg_sl ([.ref r0, .int a1]) ++ List.replicate (2 - (lg_sl ([.ref r0, .int a1])).length) Slot.unset).toArray = ls at hl ⊢
  have hl : lv_has ls 2 [(0, .ref r0), (1, .int a1)] := hl
  generalize hR : (headSpec (jw yX14_isId cX14_isId 2 (some .boolean)) ({ frames := 1, cells := 0, slots := 0, locals := 21 })).room = R
  subst hH0
  have hh : jSt (dC, dI) B base G0 G0 EX14_isIdK s.heap 0 0 [(r0, 16, 17, .ref zm), (r0, 16, 22, .ref xb), (r0, 16, 23, .ref xe)] [(zm, 117, 3100, ca 1, fs), (xb, 122, 3100, ca 1, fb), (xe, 123, 3100, ca 1, fe)] [] s.heap [] := jSt.start hX hP0 hM0 jIs.nil
  clear hX hP0
  have hk0 : (0 : Int32).toInt = 0 := by decide
  have hk1 : (1 : Int32).toInt = 1 := by decide
  have hk20 : (20 : Int32).toInt = 20 := by decide
  have hly_16_22 := htw (u_lay RX14 TX14 22) (jWc_wsX140 _ (u_in_lay (by decide)))
  have hly_16_23 := htw (u_lay RX14 TX14 23) (jWc_wsX140 _ (u_in_lay (by decide)))
  have hlk_55 := (htw (.fieldLink RX14 55 "ProofServerModel" "to" "[I") (jWr_11 _ (List.mem_of_getElem? (i := 10) rfl)))
  have hlk_52 := (htw (.fieldLink RX14 52 "ProofServerModel" "from" "[I") (jWr_11 _ (List.mem_of_getElem? (i := 9) rfl)))
  have hrg_a1 := jb_rng a1
  refine lv_aload_n hx hb dX14_isId_0 rfl (lv_at hl 0 rfl) ?_
  refine lv_iload_n hx hb dX14_isId_1 rfl (lv_at hl 1 rfl) ?_
  refine va_calli (A0 := jA base) (H0 := s.heap) (va_runV (As := [.int a1]) (rest := []) ⟨hx, hb, hml, hown, hts⟩ (uX14_isWholeK l dC dI ca base B hB hAp hB16 hB117 hB124 G0 s.heap r0 a1 zm fs) (cwV 1 hts (jgV (jWr_56 _ (List.mem_of_getElem? (i := 11) rfl)) (jWr_56 _ (List.mem_of_getElem? (i := 12) rfl)) (jWr_56 _ (List.mem_of_getElem? (i := 13) rfl)) (jWr_1 _ (List.mem_of_getElem? (i := 5) rfl)) (jWr_56 _ (List.mem_of_getElem? (i := 14) rfl))) rfl rfl rfl (by decide +kernel) ⟨by rw [← hR]; exact Nat.le_of_ble_eq_true rfl, by rw [← hR]; exact Nat.le_of_ble_eq_true rfl⟩) ⟨fun a U g mk q => by obtain ⟨q0, q1, q2, qK, q10, q11, q12, q13, q14⟩ := q; exact ⟨q0, q1, q2, jG.calling g mk a qK, q10, q11, q12, q13, q14⟩, hh.recv (C := RX14) (T := TX14) (N := 74) hB16 rfl (by decide) hg_r0 hK, fun U hU hW => ⟨rfl, hU, hh.2.1, hG.step hW hU hh.1, hg_r0, hg_zm, (hh.2.2.1.sub (L1 := [(r0, 16, 17, .ref zm)]) [0] rfl), (hh.2.2.2.2.2.2.2.1.sub (L1 := [(zm, 117, 3100, ca 1, fs)]) [0] rfl), by first | omega | rfl | assumption | decide | exact Or.inl rfl | exact Or.inr rfl | (simp only; omega)⟩⟩ rfl rfl hl.1 rfl (lv_room (Nat.le_of_ble_eq_true rfl)) dX14_isId_2 ⟨Nat.zero_le _, Nat.zero_le _⟩) hh.1 (fun q _ h => h) (fun q h => h) (fun r_2 u_1 t_1 H_1 locs_1 ht_1 hvm_1 hr_2 hb_1 hz_1 hk_1 hS_1 => ?_)
  rw [ht_1] at hb_1
  obtain ⟨hb_11, hb_12, hb_13, hb_14, hb_15⟩ := hb_1
  have hh_1 : jSt (dC, dI) B base G0 G0 EX14_isIdK s.heap 0 0 [(r0, 16, 17, .ref zm), (r0, 16, 22, .ref xb), (r0, 16, 23, .ref xe)] [(zm, 117, 3100, ca 1, fs), (xb, 122, 3100, ca 1, fb), (xe, 123, 3100, ca 1, fe)] [] H_1 locs_1 := ((hh.call hb_11 hb_12 hb_13 hb_14 hS_1 rfl (L1 := [(r0, 16, 17, .ref zm), (r0, 16, 22, .ref xb), (r0, 16, 23, .ref xe)]) [0, 1, 2] rfl rfl (M1 := [(zm, 117, 3100, ca 1, fs), (xb, 122, 3100, ca 1, fb), (xe, 123, 3100, ca 1, fe)]) [0, 1, 2] rfl rfl (I1 := []) [] rfl rfl).more hb_15)
  clear hh ht_1 hvm_1 hz_1 hk_1 hS_1 hb_11 hb_12 hb_13 hb_14 hb_15
  obtain ⟨hr_2b, hr_2p⟩ := hr_2
  obtain ⟨hr_2p_0, hr_2p_1, hr_2p_2⟩ := hr_2p
  have hr_2' := jb_01 hr_2b
  refine lv_if_ne (tgt := 34) hx hb dX14_isId_5 (by decide) (fun c_3 => ?_) (fun c_3 => ?_)
  · skip
    have c_3' : r_2.toInt ≠ 0 := jb_ne (rfl) ((by decide)) c_3
    refine lv_iconst (v := 1) hx hb dX14_isId_34 (by decide) ?_
    refine lv_goto (tgt := 39) hx hb dX14_isId_35 (by decide) ?_
    rw [hQ]
    exact W.zret (v := 1) hx hb hr (jb_nz (Or.inr rfl)) (fun t ht hW => ⟨⟨1, (), rfl, ⟨(Or.inr rfl), by first | omega | (refine ⟨?_, ?_, ?_⟩ <;> (first | omega | rfl | assumption | decide | exact Or.inl rfl | exact Or.inr rfl | (simp only; omega)))⟩, hh_1.rt (M1 := []) [] rfl ht⟩, by rw [ht]; try exact hh_1.1.1, fun q h9 hq => by rw [ht]; try exact hh_1.1.2.1 q h9 hq⟩) hh_1.1.2.2 dX14_isId_39
  · skip
    have c_3' : r_2.toInt = 0 := jb_ne_n (rfl) ((by decide)) c_3
    refine lv_aload_n hx hb dX14_isId_8 rfl (lv_at hl 0 rfl) ?_
    refine lv_iload_n hx hb dX14_isId_9 rfl (lv_at hl 1 rfl) ?_
    refine va_calli (A0 := jA base) (H0 := s.heap) (va_runV (As := [.int a1]) (rest := []) ⟨hx, hb, hml, hown, hts⟩ (uX14_isStringK l dC dI ca base B hB hAp hB16 hB117 G0 H_1 r0 a1 zm fs) (cwV 1 hts (jgV (jWr_56 _ (List.mem_of_getElem? (i := 3) rfl)) (jWr_56 _ (List.mem_of_getElem? (i := 4) rfl)) (jWr_56 _ (List.mem_of_getElem? (i := 5) rfl)) (jWr_1 _ (List.mem_of_getElem? (i := 5) rfl)) (jWr_56 _ (List.mem_of_getElem? (i := 6) rfl))) rfl rfl rfl (by decide +kernel) ⟨by rw [← hR]; exact Nat.le_of_ble_eq_true rfl, by rw [← hR]; exact Nat.le_of_ble_eq_true rfl⟩) ⟨fun a U g mk q => by obtain ⟨q0, q1, q2, qK, q10, q11, q12, q13, q14⟩ := q; exact ⟨q0, q1, q2, jG.calling g mk a qK, q10, q11, q12, q13, q14⟩, hh_1.recv (C := RX14) (T := TX14) (N := 74) hB16 rfl (by decide) hg_r0 hK, fun U hU hW => ⟨rfl, hU, hh_1.2.1, hG.step hW hU hh_1.1, hg_r0, hg_zm, (hh_1.2.2.1.sub (L1 := [(r0, 16, 17, .ref zm)]) [0] rfl), (hh_1.2.2.2.2.2.2.2.1.sub (L1 := [(zm, 117, 3100, ca 1, fs)]) [0] rfl), by first | omega | rfl | assumption | decide | exact Or.inl rfl | exact Or.inr rfl | (simp only; omega)⟩⟩ rfl rfl hl.1 rfl (lv_room (Nat.le_of_ble_eq_true rfl)) dX14_isId_10 ⟨Nat.zero_le _, Nat.zero_le _⟩) hh_1.1 (fun q _ h => h) (fun q h => h) (fun r_5 u_4 t_4 H_4 locs_4 ht_4 hvm_4 hr_5 hb_4 hz_4 hk_4 hS_4 => ?_)
    rw [ht_4] at hb_4
    obtain ⟨hb_41, hb_42, hb_43, hb_44, hb_45⟩ := hb_4
    have hh_4 : jSt (dC, dI) B base G0 G0 EX14_isIdK s.heap 0 0 [(r0, 16, 17, .ref zm), (r0, 16, 22, .ref xb), (r0, 16, 23, .ref xe)] [(zm, 117, 3100, ca 1, fs), (xb, 122, 3100, ca 1, fb), (xe, 123, 3100, ca 1, fe)] [] H_4 locs_4 := ((hh_1.call hb_41 hb_42 hb_43 hb_44 hS_4 rfl (L1 := [(r0, 16, 17, .ref zm), (r0, 16, 22, .ref xb), (r0, 16, 23, .ref xe)]) [0, 1, 2] rfl rfl (M1 := [(zm, 117, 3100, ca 1, fs), (xb, 122, 3100, ca 1, fb), (xe, 123, 3100, ca 1, fe)]) [0, 1, 2] rfl rfl (I1 := []) [] rfl rfl).more hb_45)
    clear hh_1 ht_4 hvm_4 hz_4 hk_4 hS_4 hb_41 hb_42 hb_43 hb_44 hb_45
    obtain ⟨hr_5b, hr_5p⟩ := hr_5
    obtain ⟨hr_5p_0, hr_5p_1, hr_5p_2⟩ := hr_5p
    have hr_5' := jb_01 hr_5b
    refine lv_if_eq (tgt := 38) hx hb dX14_isId_13 (by decide) (fun c_6 => ?_) (fun c_6 => ?_)
    · skip
      have c_6' : r_5.toInt = 0 := jb_eq (rfl) ((by decide)) c_6
      refine lv_iconst (v := 0) hx hb dX14_isId_38 (by decide) ?_
      rw [hQ]
      exact W.zret (v := 0) hx hb hr (jb_nz (Or.inl rfl)) (fun t ht hW => ⟨⟨0, (), rfl, ⟨(Or.inl rfl), by first | omega | (refine ⟨?_, ?_, ?_⟩ <;> (first | omega | rfl | assumption | decide | exact Or.inl rfl | exact Or.inr rfl | (simp only; omega)))⟩, hh_4.rt (M1 := []) [] rfl ht⟩, by rw [ht]; try exact hh_4.1.1, fun q h9 hq => by rw [ht]; try exact hh_4.1.2.1 q h9 hq⟩) hh_4.1.2.2 dX14_isId_39
    · skip
      have c_6' : r_5.toInt ≠ 0 := jb_eq_n (rfl) ((by decide)) c_6
      refine lv_aload_n hx hb dX14_isId_16 rfl (lv_at hl 0 rfl) ?_
      refine j7_read hx hb hown hK (C := RX14) (T := TX14) (N := 74) rfl hly_16_23 hlk_55 (hh_4.at 2 rfl) dX14_isId_17 ?_
      refine lv_iload_n hx hb dX14_isId_20 rfl (lv_at hl 1 rfl) ?_
      refine j7_ialdM hx hb hK hh_4 hB123 1 rfl (by decide) hg_xe (x := a1.toInt) (rfl) (by omega) (j := 2) rfl dX14_isId_21 (fun z_7 ez_7 (hz_7 : 0 ≤ z_7.toInt ∧ z_7.toInt ≤ 3100) => ?_)
      have hqz_7 : z_7.toInt = jSo fe (a1.toInt) := by unfold jSo; rw [ez_7]
      refine lv_aload_n hx hb dX14_isId_22 rfl (lv_at hl 0 rfl) ?_
      refine j7_read hx hb hown hK (C := RX14) (T := TX14) (N := 74) rfl hly_16_22 hlk_52 (hh_4.at 1 rfl) dX14_isId_23 ?_
      refine lv_iload_n hx hb dX14_isId_26 rfl (lv_at hl 1 rfl) ?_
      refine j7_ialdM hx hb hK hh_4 hB122 1 rfl (by decide) hg_xb (x := a1.toInt) (rfl) (by omega) (j := 1) rfl dX14_isId_27 (fun z_8 ez_8 (hz_8 : 0 ≤ z_8.toInt ∧ z_8.toInt ≤ 3100) => ?_)
      have hqz_8 : z_8.toInt = jSo fb (a1.toInt) := by unfold jSo; rw [ez_8]
      refine lv_isub hx hb dX14_isId_28 ?_
      refine lv_topi (fun z_9 ez_9 => ?_)
      have hz_9 : z_9.toInt = z_7.toInt - z_8.toInt := by rw [ez_9]; exact jb_isub2 (rfl) (rfl) (by omega)
      refine lv_bipush (v := 20) hx hb dX14_isId_29 (by decide) ?_
      refine lv_icmp_gt (tgt := 38) hx hb dX14_isId_31 (by decide) (fun c_10 => ?_) (fun c_10 => ?_)
      · skip
        have c_10' : z_9.toInt > 20 := jb_gt (rfl) ((by decide)) c_10
        refine lv_iconst (v := 0) hx hb dX14_isId_38 (by decide) ?_
        rw [hQ]
        exact W.zret (v := 0) hx hb hr (jb_nz (Or.inl rfl)) (fun t ht hW => ⟨⟨0, (), rfl, ⟨(Or.inl rfl), by first | omega | (refine ⟨?_, ?_, ?_⟩ <;> (first | omega | rfl | assumption | decide | exact Or.inl rfl | exact Or.inr rfl | (simp only; omega)))⟩, hh_4.rt (M1 := []) [] rfl ht⟩, by rw [ht]; try exact hh_4.1.1, fun q h9 hq => by rw [ht]; try exact hh_4.1.2.1 q h9 hq⟩) hh_4.1.2.2 dX14_isId_39
      · skip
        have c_10' : z_9.toInt ≤ 20 := jb_gt_n (rfl) ((by decide)) c_10
        refine lv_iconst (v := 1) hx hb dX14_isId_34 (by decide) ?_
        refine lv_goto (tgt := 39) hx hb dX14_isId_35 (by decide) ?_
        rw [hQ]
        exact W.zret (v := 1) hx hb hr (jb_nz (Or.inr rfl)) (fun t ht hW => ⟨⟨1, (), rfl, ⟨(Or.inr rfl), by first | omega | (refine ⟨?_, ?_, ?_⟩ <;> (first | omega | rfl | assumption | decide | exact Or.inl rfl | exact Or.inr rfl | (simp only; omega)))⟩, hh_4.rt (M1 := []) [] rfl ht⟩, by rw [ht]; try exact hh_4.1.1, fun q h9 hq => by rw [ht]; try exact hh_4.1.2.1 q h9 hq⟩) hh_4.1.2.2 dX14_isId_39
end
section
-- invariants with a footprint, as a walk carries them: contents of reference arrays, one field of all documents, the sentences of all documents
def jRp (G : jT) (k n : Nat) (P : Nat → Prop) : Value → Prop := fun v => v = .null ∨ ∃ x : Nat, v = .ref x ∧ G x = some (k, n) ∧ P x
theorem jPu.drop {sn ck fs : Nat → Int32} {fd fo fo' : Nat → Option Nat} {dc : Int} {ol nw td : Nat} {w : Nat} (h : jPu sn ck fd fo fs dc ol nw td) (hv : fo' w = none) (ho : ∀ j, j < 2 → j ≠ w → fo' j = fo j) : jPu sn ck fd fo' fs dc ol nw td := by
  obtain ⟨g0, g1, g2, g3⟩ := h
  refine ⟨g0, g1, g2, fun j hj => ?_⟩
  by_cases e : j = w
  · subst e; exact Or.inl hv
  · rw [ho j hj e]; exact g3 j hj
/-- the sentences of a document that is no worker's: x is told, old or now, or a closed one -/
theorem jPu.num {sn ck fs : Nat → Int32} {fd fo : Nat → Option Nat} {dc : Int} {ol nw td : Nat} {x : Nat} {v : Int32} (h : jPu sn ck fd fo fs dc ol nw td) (hx : x = ol ∨ x = nw ∨ x = td) : jPu (jUn sn x v) ck fd fo fs dc ol nw td := by
  obtain ⟨g0, g1, g2, g3⟩ := h
  have hne : ∀ i a, i < 3 → fd i = some a → a ≠ x := fun i a hi ha e => by
    obtain ⟨k1, k2, k3⟩ := g0 i hi
    subst e
    rcases hx with rfl | rfl | rfl
    · exact k1 ha
    · exact k2 ha
    · exact k3 ha
  refine ⟨g0, g1, fun i a hi ha => ?_, fun w hw => ?_⟩
  · rw [jUn_n _ _ (hne i a hi ha)]; exact g2 i a hi ha
  · rcases g3 w hw with k | ⟨d, a, k1, k2, k3, k4, k5⟩
    · exact Or.inl k
    · exact Or.inr ⟨d, a, k1, k2, k3, k4, by rw [jUn_n _ _ (hne d a k2 k3)]; exact k5⟩
section J15
variable {p : Program} {l : Launch} {e : Env} {R : Room} {s : State} {m : MethodId} {args : Array Value} {below : List Frame} {meth : Method} {c : Code} {H : Heap} {locs : List Loc} {cells slots : Nat} {Q : State → Prop}
variable {cc : ByteArray} {pc : Nat} {ls : Array Slot} {rest : List Value} {dC : Nat → ClassId} {dI : Nat → Nat → Nat} {ca : Nat → ClassId} {B : jF} {base : Nat} {G0 G : jT} {E : List (Nat × Nat)} {H0 : Heap} {zc zs : Nat} {L : List jPin} {M : List jCt} {I : List jIv} {a k n i N : Nat} {cA : ClassId} {tys : List (ClassId × FieldType)} {C own : String} {T : u_T} {index : Nat}
/-- a write to a field, with all that stays -/
theorem j7_putNX (hexec : p.tables.exec = Jvm.exec) (hb : c.code = cc) (hown : s.vm.findClass own = some m.cls) (hK : va_K (dC, dI) vwCl tys s) (hh : jSt (dC, dI) B base G0 G E H0 zc zs L M I H locs) (hB : jBok B) (hAp : jAp (dC, dI)) {F : Nat → jT → List (Value → Prop)} (hBk : ∀ n G a H, B k n G a H ↔ jOb (dC, dI) k N (F n G) a H) (hc : vwCl[k]? = some (C, T, N)) (hk : k < 1000) (ha : G a = some (k, n)) (hi : i < N) (hlay : (u_lay C T i).before args s = true) (hfin : (T i).2.2.2 = false) {host : String} (hlink : (Cond.fieldLinkNest own index (T i).1 (T i).2.1 (T i).2.2.1 host).before args s = true) {P : Value → Prop} (hp : (F n G)[i]? = some P) {ty : FieldType} {v : Value} (hd : parseFieldDescriptor (T i).2.2.1 = some ty) (hnar : narrow ty v = v) (hfit : fits ty v = true) (hv : P v) (hE : E.contains (k, i) = true)
    {L1 : List jPin} (is : List Nat) (hs : is.map (fun i => L[i]?) = L1.map some) (hn : L1.all (fun q => !(q.2.1 == k && q.2.2.1 == i)) = true) (hI : I.all (fun q => !(q.1.contains (k, i))) = true) (hdg : decode cc pc = .ok (.putfield index, 3))
    (kk : ∀ (H1 : Heap) (locs1 : List Loc), (∀ q, q ≠ a → H1[q]? = H[q]?) → (∀ ib w, ib ≠ i → jf (dC, dI) k a ib w H → jf (dC, dI) k a ib w H1) → jSt (dC, dI) B base G0 G E H0 zc zs ((a, k, i, v) :: L1) M I H1 locs1 → W p l e R s m args below meth c H1 locs1 cells slots Q (F0 m (pc + 3) ls rest)) : W p l e R s m args below meth c H locs cells slots Q (F0 m pc ls (v :: .ref a :: rest)) := by
  obtain ⟨V, ⟨cell, q1, q2, q3, q4⟩, hV⟩ := (hBk _ _ _ _).mp (hh.2.1.1 a k n ha hk (fun h => by cases h))
  obtain ⟨hS, hfc, kC, hkC, hkind⟩ := hK.1 k _ hc
  obtain ⟨cf, kf, fi, f, hfi, hsl⟩ := hS i hi
  have hst := (u_facts hfc hkC (j7_lay hlay) hfi).1
  unfold u_lay at hlay
  rw [if_neg (by rw [hfin]; decide)] at hlay
  have h6 := u_store hfc hkC hkind hlay hfi hd hnar hfit
  refine va_WputK hexec hb (f := f) hown hlink hfi hst (by rw [q2]; exact h6) q1 q3 (by rw [hsl]; exact k2_hasslot (q4 i hi)) rfl rfl hdg fun H1 e1 e2 e3 => ?_
  rw [hsl] at e1 ⊢
  refine kk H1 _ e3 (fun ib w hne hf => ?_) (hh.fld hB hAp hBk hc hk ha hi hp hv hE is hs hn hI q1 e1 e2 e3 (jTot_set e2 q1 e1 (jSet_sz _ _ _) e3) (fun q hq => ?_))
  · obtain ⟨r, g1, g2, cell2, g3, g4, g5, g6⟩ := hf
    have hr : r = (C, T, N) := Option.some.inj (g1.symm.trans hc)
    subst hr
    cases q1.symm.trans g3
    have hap : ∀ x y, x < N → y < N → x ≠ y → dI k x ≠ dI k y := fun x y hx hy => hAp k _ hc x y hx hy
    have e4 : (cell.setSlot (dI k i) v).slots[dI k ib]? = some (updV V i v ib) := t_set q4 hap hi v ib g2
    have e5 : updV V i v ib = V ib := by simp [updV, hne]
    rw [e5] at e4
    have e6 : V ib = w := Option.some.inj ((q4 ib g2).symm.trans g6)
    exact ⟨_, hc, g2, _, e1, g4, g5, by rw [← e6]; exact e4⟩
  · rcases List.mem_append.mp hq with h | h
    · exact hh.1.2.2 q h
    · cases List.mem_singleton.mp h; exact (hh.ab ha).1
theorem j7_iastX {P : Nat → Int32 → Prop} (hexec : p.tables.exec = Jvm.exec) (hb : c.code = cc) (hK : va_K (dC, dI) vwCl tys s) (hh : jSt (dC, dI) B base G0 G E H0 zc zs L M I H locs) (hB : jBok B) (hBk : ∀ n G a H, B k n G a H ↔ jAr (dC, dI) cA P n a H) (t0 : Nat) (ht : tys[t0]? = some (cA, .int)) (hk : k < 1000) (hk2 : 17 ≤ k) (hE : E.contains (k, 0) = true) (oj : Nat) {kk1 : Nat} {cB : ClassId} {f : Nat → Int32} (hj : M[oj]? = some (a, kk1, n, cB, f)) {M1 : List jCt} (js : List Nat) (hjs : js.map (fun i => M[i]?) = M1.map some) (hM : M1.all (fun q => !(q.2.1 == k)) = true) (hI : I.all (fun q => !(q.1.contains (k, 0))) = true) (ha : G a = some (k, n)) {i v : Int32} {x : Int} (hi : i.toInt = x) (h12 : 0 ≤ x ∧ x < n) (hv : P x.toNat v) (hdg : decode cc pc = .ok (.iastore, 1))
    (kk : ∀ (H1 : Heap) (locs1 : List Loc) (g : Nat → Int32), g x.toNat = v → (∀ j, j < n → j ≠ x.toNat → g j = f j) → (∀ q, q ≠ a → H1[q]? = H[q]?) → jSt (dC, dI) B base G0 G E H0 zc zs L ((a, k, n, cA, g) :: M1) I H1 locs1 → W p l e R s m args below meth c H1 locs1 cells slots Q (F0 m (pc + 1) ls rest)) : W p l e R s m args below meth c H locs cells slots Q (F0 m pc ls (.int v :: .int i :: .ref a :: rest)) := by
  obtain ⟨h1, h2⟩ := h12
  obtain ⟨f', g1, g2⟩ := hh.ar hBk hk ha
  obtain ⟨-, -, -, q4⟩ := hh.2.2.2.2.2.2.2.1 _ (List.mem_of_getElem? hj)
  have hh1 : jSt (dC, dI) B base G0 G E H0 zc zs L M1 I H locs := by
    obtain ⟨e1, e2, e3, e4, e5, e6, e7, e8, e9⟩ := hh
    exact ⟨e1, e2, e3, e4, e5, e6, e7, e8.sub js hjs, e9⟩
  refine j_iast (A := jA base) hexec hb hK t0 g1 (hh.ab ha).1 hh.1.2.2 ht (jb_in hi h1 h2) hdg (fun H1 locs1 hat hsz hfr hT hL => ?_)
  have h9 := hh1.arr hB ha hk hk2 hE hM hI hsz hfr hT hL ((hBk _ _ _ _).mpr ⟨_, hat, jAr_upd g2 hi h1 hv⟩)
  refine kk H1 locs1 (upd f' i.toNatClampNeg v) (by rw [← jb_cl hi h1]; simp [upd]) (fun j hj' hne => ?_) hfr ?_
  · have : j ≠ i.toNatClampNeg := by rw [jb_cl hi h1]; exact hne
    simp only [upd, if_neg this]
    exact (jCt_eq q4 g1 hj').symm
  · obtain ⟨e1, e2, e3, e4, e5, e6, e7, e8, e9⟩ := h9
    refine ⟨e1, e2, e3, e4, e5, e6, e7, fun q hq => ?_, e9⟩
    rcases List.mem_cons.mp hq with e | e
    · subst e; exact ⟨ha, hk2, hk, hat⟩
    · exact e8 q e
theorem j7_qastI {P : jT → Option Nat → Prop} (hexec : p.tables.exec = Jvm.exec) (hb : c.code = cc) (hK : va_K (dC, dI) vwCl tys s) (hh : jSt (dC, dI) B base G0 G E H0 zc zs L M I H locs) (hB : jBok B) (hBk : ∀ n G a H, B k n G a H ↔ jAq (dC, dI) cA P n G a H) (t0 : Nat) (ht : tys[t0]? = some (cA, .object C)) (hk : k < 1000) (hk2 : 17 ≤ k) (hE : E.contains (k, 0) = true) (hM : M.all (fun q => !(q.2.1 == k)) = true) (hI : I.all (fun q => !(q.1.contains (k, 0))) = true) (ha : G a = some (k, n)) {i : Int32} {x : Int} (hi : i.toInt = x) (h12 : 0 ≤ x ∧ x < n)
    {v kv nv N : Nat} {T : u_T} {F : Nat → jT → List (Value → Prop)} (hBv : ∀ n G a H, B kv n G a H ↔ jOb (dC, dI) kv N (F n G) a H) (hc : vwCl[kv]? = some (C, T, N)) (hkv : kv < 1000) (hv : G v = some (kv, nv)) (hP : P G (some v)) {f0 : Nat → Option Nat} {cB : ClassId} (hq0 : jQc dC dI cB a n f0 H) (hdg : decode cc pc = .ok (.aastore, 1))
    (kk : ∀ (H1 : Heap) (locs1 : List Loc) (g : Nat → Option Nat), g x.toNat = (some v) → (∀ j, j < n → j ≠ x.toNat → g j = f0 j) → jQc dC dI cA a n g H1 → jSt (dC, dI) B base G0 G E H0 zc zs L M I H1 locs1 → W p l e R s m args below meth c H1 locs1 cells slots Q (F0 m (pc + 1) ls rest)) : W p l e R s m args below meth c H locs cells slots Q (F0 m pc ls (.ref v :: .int i :: .ref a :: rest)) := by
  obtain ⟨h1, h2⟩ := h12
  obtain ⟨f, g1, g2⟩ := hh.aq hBk hk ha
  obtain ⟨V, ⟨cellV, q1, q2, q3, q4⟩, hV⟩ := (hBv _ _ _ _).mp (hh.2.1.1 v kv nv hv hkv (fun h => by cases h))
  have hlt := jb_cl_lt hi h1 h2
  have hcls := (hK.1 kv _ hc).2
  obtain ⟨kA, comp, k1, k2, k3, -⟩ := (hK.2 t0 _ ht).2
  have hcomp : comp = dC kv := Option.some.inj (k3.symm.trans hcls.1)
  subst hcomp
  obtain ⟨kC, hkC, -⟩ := hcls.2
  refine W.aast hexec hb g1 (fun q h => by cases h) (fun h => by cases h) k1 k2 rfl hkC ⟨jb_n0 hi h1, by show _ < (arrV _ _ _).slots.size; rw [arrV_size]; exact hlt⟩ q1 (fun q h => by rw [q3] at h; cases h) (by rw [q2]; exact hkC) (by rw [q2]; exact va_assign hcls) rfl rfl hdg fun H1 e1 z oq => ?_
  have hat : jQc dC dI cA a n (va_up f i.toNatClampNeg (some v)) H1 := by
    show H1[a]? = some (vp_cell _ _)
    rw [e1]
    rw [vp_cell_q, vp_cell_q, arrV_store]
    congr 2
    funext q
    by_cases hq : q = i.toNatClampNeg
    · subst hq
      simp [updV, va_up, va_rf]
    · simp [updV, va_up, hq]
  refine kk H1 _ (va_up f i.toNatClampNeg (some v)) (by rw [← jb_cl hi h1]; simp [va_up]) (fun j hj hne => ?_) hat (hh.arr hB ha hk hk2 hE hM hI z oq (jTot_set z g1 e1 (jSet_sz _ _ _) oq) (fun q hq => ?_) ((hBk _ _ _ _).mpr ⟨_, hat, jAq_up g2 hP⟩))
  · rw [va_up_ne _ _ (by rw [jb_cl hi h1]; exact hne)]; exact jQc_eq g1 hq0 hj
  · rcases List.mem_append.mp hq with h | h
    · exact hh.1.2.2 q h
    · cases List.mem_singleton.mp h; exact (hh.ab ha).1
theorem j7_qastNI {P : jT → Option Nat → Prop} (hexec : p.tables.exec = Jvm.exec) (hb : c.code = cc) (hK : va_K (dC, dI) vwCl tys s) (hh : jSt (dC, dI) B base G0 G E H0 zc zs L M I H locs) (hB : jBok B) (hBk : ∀ n G a H, B k n G a H ↔ jAq (dC, dI) cA P n G a H) (t0 : Nat) (ht : tys[t0]? = some (cA, .object C)) (hk : k < 1000) (hk2 : 17 ≤ k) (hE : E.contains (k, 0) = true) (hM : M.all (fun q => !(q.2.1 == k)) = true) (hI : I.all (fun q => !(q.1.contains (k, 0))) = true) (ha : G a = some (k, n)) {i : Int32} {x : Int} (hi : i.toInt = x) (h12 : 0 ≤ x ∧ x < n) (hP : P G none) {f0 : Nat → Option Nat} {cB : ClassId} (hq0 : jQc dC dI cB a n f0 H) (hdg : decode cc pc = .ok (.aastore, 1))
    (kk : ∀ (H1 : Heap) (locs1 : List Loc) (g : Nat → Option Nat), g x.toNat = none → (∀ j, j < n → j ≠ x.toNat → g j = f0 j) → jQc dC dI cA a n g H1 → jSt (dC, dI) B base G0 G E H0 zc zs L M I H1 locs1 → W p l e R s m args below meth c H1 locs1 cells slots Q (F0 m (pc + 1) ls rest)) : W p l e R s m args below meth c H locs cells slots Q (F0 m pc ls (.null :: .int i :: .ref a :: rest)) := by
  obtain ⟨h1, h2⟩ := h12
  obtain ⟨f, g1, g2⟩ := hh.aq hBk hk ha
  refine va_WaastN (C := C) hexec hb g1 ((hK.2 t0 _ ht).1 n (fun j => va_rf (f j))) (fun h => by cases h) (by show ¬ (i < 0 ∨ (arrV _ _ _).slots.size ≤ _); rw [arrV_size]; exact jb_in hi h1 h2) rfl rfl hdg fun H1 e1 z oq => ?_
  have hat : jQc dC dI cA a n (va_up f i.toNatClampNeg none) H1 := by
    show H1[a]? = some (vp_cell _ _)
    rw [e1]
    rw [vp_cell_q, vp_cell_q, arrV_store]
    congr 2
    funext q
    by_cases hq : q = i.toNatClampNeg
    · subst hq
      simp [updV, va_up, va_rf]
    · simp [updV, va_up, hq]
  refine kk H1 _ (va_up f i.toNatClampNeg none) (by rw [← jb_cl hi h1]; simp [va_up]) (fun j hj hne => ?_) hat (hh.arr hB ha hk hk2 hE hM hI z oq (jTot_set z g1 e1 (jSet_sz _ _ _) oq) (fun q hq => ?_) ((hBk _ _ _ _).mpr ⟨_, hat, jAq_up g2 hP⟩))
  · rw [va_up_ne _ _ (by rw [jb_cl hi h1]; exact hne)]; exact jQc_eq g1 hq0 hj
  · rcases List.mem_append.mp hq with h | h
    · exact hh.1.2.2 q h
    · cases List.mem_singleton.mp h; exact (hh.ab ha).1
end J15
end
section
def EX14_partD : List (Nat × Nat) := [(14, 5), (190, 0), (191, 0), (192, 0)]
set_option maxHeartbeats 4000000 in
set_option maxRecDepth 20000 in
theorem uX14_partD (l : Launch) (dC : Nat → ClassId) (dI : Nat → Nat → Nat) (ca : Nat → ClassId) (base : Nat) (B : jF) (hB : jBok B) (hAp : jAp (dC, dI)) (hB14 : ∀ n G a H, B 14 n G a H ↔ jOb (dC, dI) 14 11 (F14 n G) a H) (hB101 : ∀ n G a H, B 101 n G a H ↔ jAr (dC, dI) (ca 1) (fun j z => True) n a H) (hB190 : ∀ n G a H, B 190 n G a H ↔ jAr (dC, dI) (ca 1) (fun j z => 0 ≤ z.toInt ∧ z.toInt ≤ 1500) n a H) (hB191 : ∀ n G a H, B 191 n G a H ↔ jAr (dC, dI) (ca 1) (fun j z => 0 ≤ z.toInt ∧ z.toInt ≤ 1500) n a H) (hB192 : ∀ n G a H, B 192 n G a H ↔ jAr (dC, dI) (ca 1) (fun j z => 0 ≤ z.toInt ∧ z.toInt ≤ 2) n a H) (G0 : jT) (H0 : Heap) (r0 : Nat) (yt : Nat) (pz : Int32) (yb : Nat) (ye : Nat) (sn : Nat → Int32) (ft : Nat → Int32) (fb : Nat → Int32) (fe : Nat → Int32) : Met l yX14_part (jw yX14_part cX14_part 6 none) ({ frames := 3, cells := 0, slots := 0, locals := 69 }) (va_Pc [.ref r0] (fun U => U.heap = H0 ∧ jX B base G0 [] H0 ∧ jG dC dI ca base U ∧ G0 r0 = some (14, 0) ∧ G0 yt = some (101, 1500) ∧ G0 yb = some (190, 40) ∧ G0 ye = some (191, 40) ∧ jP (dC, dI) G0 H0 [(r0, 14, 3, .ref yt), (r0, 14, 4, .int pz), (r0, 14, 6, .ref yb), (r0, 14, 7, .ref ye)] ∧ jMc (dC, dI) G0 H0 [(yt, 101, 1500, ca 1, ft), (yb, 190, 40, ca 1, fb), (ye, 191, 40, ca 1, fe)] ∧ jIs (dC, dI) G0 H0 [(jFs, jDY dC dI ca G0 (some r0) sn)] ∧ 0 ≤ pz.toInt ∧ pz.toInt ≤ 1500)) (va_Qv (S := Int32 × (Nat → Int32) × (Nat → Int32)) (fun u => u.1.toInt = jPar ft pz.toInt ∧ 0 ≤ u.1.toInt ∧ u.1.toInt ≤ 40 ∧ jSrt u.2.1 u.2.2 u.1.toInt pz.toInt) (fun u t => (jRt (dC, dI) B base G0 EX14_partD H0 [(r0, 14, 5, .int u.1)] t.heap ∧ jMc (dC, dI) G0 t.heap [(yb, 190, 40, ca 1, u.2.1), (ye, 191, 40, ca 1, u.2.2)]) ∧ jIs (dC, dI) G0 t.heap [(jFs, jDY dC dI ca G0 (some r0) sn)]) (jA base)) 0 0 (jA base) := by
  refine Met.ofW (cc := cX14_part) (maxL := 6) (ret := none) (by decide) rfl ?_
  intro p e s m args below meth c s₁ Bd hml hv
  obtain ⟨rfl, hH0, hX, hG, hg_r0, hg_yt, hg_yb, hg_ye, hP0, hM0, hI0, hp0, hp1⟩ := hv
  have hK := hG.1
  have hx := Bd.exec
  have hb := Bd.bytes
  have hr := Bd.returns
  have hts := atoms_spec (ws := (jw yX14_part cX14_part 6 none)) Bd.pre
  have htw : ∀ w ∈ jWl, w.before _ s = true := fun w h => hts w (List.mem_cons_of_mem _ h)
  have hown : s.vm.findClass RX14 = some m.cls := findClass_of_methodNamed Bd.named
  have hlocks := Bd.notSynchronized
  obtain ⟨Q, hQ⟩ : ∃ Q, Q = MQ below (va_Qv (S := Int32 × (Nat → Int32) × (Nat → Int32)) (fun u => u.1.toInt = jPar ft pz.toInt ∧ 0 ≤ u.1.toInt ∧ u.1.toInt ≤ 40 ∧ jSrt u.2.1 u.2.2 u.1.toInt pz.toInt) (fun u t => (jRt (dC, dI) B base G0 EX14_partD H0 [(r0, 14, 5, .int u.1)] t.heap ∧ jMc (dC, dI) G0 t.heap [(yb, 190, 40, ca 1, u.2.1), (ye, 191, 40, ca 1, u.2.2)]) ∧ jIs (dC, dI) G0 t.heap [(jFs, jDY dC dI ca G0 (some r0) sn)]) (jA base)) ([.ref r0] : List Value).toArray s 0 0 (jA base) := ⟨_, rfl⟩
  rw [← hQ]
  have hl := lv_entry ([.ref r0]) (n := 6) (Nat.le_of_ble_eq_true rfl)
  rw [lg_entry_eq]
  generalize (lg_sl ([.ref r0]) ++ List.replicate (6 - (lg_sl ([.ref r0])).length) Slot.unset).toArray = ls at hl ⊢
  have hl : lv_has ls 6 [(0, .ref r0)] := hl
  generalize hR : (headSpec (jw yX14_part cX14_part 6 none) ({ frames := 3, cells := 0, slots := 0, locals := 69 })).room = R
  subst hH0
  have hh : jSt (dC, dI) B base G0 G0 EX14_partD s.heap 0 0 [(r0, 14, 3, .ref yt), (r0, 14, 4, .int pz), (r0, 14, 6, .ref yb), (r0, 14, 7, .ref ye)] [(yt, 101, 1500, ca 1, ft), (yb, 190, 40, ca 1, fb), (ye, 191, 40, ca 1, fe)] [(jFs, jDY dC dI ca G0 (some r0) sn)] s.heap [] := jSt.start hX hP0 hM0 hI0
  clear hX hP0
  have hk0 : (0 : Int32).toInt = 0 := by decide
  have hk1 : (1 : Int32).toInt = 1 := by decide
  have hk2 : (2 : Int32).toInt = 2 := by decide
  have hk39 : (39 : Int32).toInt = 39 := by decide
  have hly_14_3 := htw (u_lay RX12 TX12 3) (jWc_wsX120 _ (u_in_lay (by decide)))
  have hly_14_4 := htw (u_lay RX12 TX12 4) (jWc_wsX120 _ (u_in_lay (by decide)))
  have hly_14_5 := htw (u_lay RX12 TX12 5) (jWc_wsX120 _ (u_in_lay (by decide)))
  have hly_14_6 := htw (u_lay RX12 TX12 6) (jWc_wsX120 _ (u_in_lay (by decide)))
  have hly_14_7 := htw (u_lay RX12 TX12 7) (jWc_wsX120 _ (u_in_lay (by decide)))
  have hly_14_8 := htw (u_lay RX12 TX12 8) (jWc_wsX120 _ (u_in_lay (by decide)))
  have hlk_529 := (va_Nw.use (A := ([.ref r0] : List Value).toArray) rfl (hG.2.1 RX14 529 "ProofServerModel$Document" "text" "[I" "ProofServerModel" (List.mem_of_getElem? (i := 1735) (by decide +kernel))))
  have hlk_526 := (va_Nw.use (A := ([.ref r0] : List Value).toArray) rfl (hG.2.1 RX14 526 "ProofServerModel$Document" "units" "I" "ProofServerModel" (List.mem_of_getElem? (i := 1736) (by decide +kernel))))
  have hlk_587 := (va_Nw.use (A := ([.ref r0] : List Value).toArray) rfl (hG.2.1 RX14 587 "ProofServerModel$Document" "sentences" "I" "ProofServerModel" (List.mem_of_getElem? (i := 1737) (by decide +kernel))))
  have hlk_596 := (va_Nw.use (A := ([.ref r0] : List Value).toArray) rfl (hG.2.1 RX14 596 "ProofServerModel$Document" "begin" "[I" "ProofServerModel" (List.mem_of_getElem? (i := 1739) (by decide +kernel))))
  have hlk_599 := (va_Nw.use (A := ([.ref r0] : List Value).toArray) rfl (hG.2.1 RX14 599 "ProofServerModel$Document" "flaw" "[I" "ProofServerModel" (List.mem_of_getElem? (i := 1743) (by decide +kernel))))
  have hlk_594 := (va_Nw.use (A := ([.ref r0] : List Value).toArray) rfl (hG.2.1 RX14 594 "ProofServerModel$Document" "end" "[I" "ProofServerModel" (List.mem_of_getElem? (i := 1741) (by decide +kernel))))
  refine lv_aload_n hx hb dX14_part_0 rfl (lv_at hl 0 rfl) ?_
  refine j7_readN hx hb hown hK (C := RX12) (T := TX12) (N := 11) rfl hly_14_3 hlk_529 (hh.at 0 rfl) dX14_part_1 ?_
  refine lv_astore_n (lv' := [(1, .ref yt), (0, .ref r0)]) hx hb dX14_part_4 rfl hl (by decide) rfl (fun ls hl => ?_)
  refine lv_aload_n hx hb dX14_part_5 rfl (lv_at hl 1 rfl) ?_
  refine j7_readN hx hb hown hK (C := RX12) (T := TX12) (N := 11) rfl hly_14_4 hlk_526 (hh.at 1 rfl) dX14_part_6 ?_
  refine lv_istore_n (lv' := [(2, .int pz), (1, .ref yt), (0, .ref r0)]) hx hb dX14_part_9 rfl hl (by decide) rfl (fun ls hl => ?_)
  refine lv_aload_n hx hb dX14_part_10 rfl (lv_at hl 2 rfl) ?_
  refine lv_iconst (v := 0) hx hb dX14_part_11 (by decide) ?_
  have hd_2 := hh.iv 0 rfl
  have hh_3 := hh.sub (L1 := [(r0, 14, 3, .ref yt), (r0, 14, 4, .int pz), (r0, 14, 6, .ref yb), (r0, 14, 7, .ref ye)]) [0, 1, 2, 3] rfl (M1 := [(yt, 101, 1500, ca 1, ft), (yb, 190, 40, ca 1, fb), (ye, 191, 40, ca 1, fe)]) [0, 1, 2] rfl (I1 := []) [] rfl
  clear hh
  refine j7_putNX hx hb hown hK hh_3 hB hAp hB14 (C := RX12) (T := TX12) (N := 11) rfl (by decide) hg_r0 (i := 5) (by decide) hly_14_5 rfl hlk_587 rfl (ty := .int) (v := .int 0) (by decide +kernel) rfl rfl (⟨_, rfl, by omega, by omega⟩) rfl (L1 := [(r0, 14, 3, .ref yt), (r0, 14, 4, .int pz), (r0, 14, 6, .ref yb), (r0, 14, 7, .ref ye)]) [0, 1, 2, 3] rfl rfl rfl dX14_part_12 (fun H_1 locs_1 hr_1 hf_1 hh_1 => ?_)
  clear hh_3
  have hd_2n := jDY.fld hd_2 hg_r0 hr_1 hf_1
  have hh_4 := hh_1.addI (jDY.ie hd_2n)
  clear hh_1
  clear hd_2 hd_2n hr_1 hf_1
  refine lv_aload_n hx hb dX14_part_15 rfl (lv_at hl 1 rfl) ?_
  refine lv_iconst (v := 0) hx hb dX14_part_16 (by decide) ?_
  refine lv_iload_n hx hb dX14_part_17 rfl (lv_at hl 0 rfl) ?_
  refine va_calli (A0 := jA base) (H0 := s.heap) (va_runS (As := [.ref yt, .int 0, .int pz]) (rest := []) ⟨hx, hb, hml, hown, hts⟩ (uX14_behindGapsK l dC dI ca base B hB hAp hB101 G0 H_1 yt 0 pz 1500 ft) (va_cwS 3 hts (jgS (jWr_57 _ (List.mem_of_getElem? (i := 13) rfl)) (jWr_57 _ (List.mem_of_getElem? (i := 14) rfl)) (jWr_1 _ (List.mem_of_getElem? (i := 5) rfl)) (jWr_57 _ (List.mem_of_getElem? (i := 15) rfl))) rfl rfl rfl (by decide +kernel) ⟨by rw [← hR]; exact Nat.le_of_ble_eq_true rfl, by rw [← hR]; exact Nat.le_of_ble_eq_true rfl⟩) ⟨fun a U g mk q => by obtain ⟨q0, q1, q2, qK, q10, q11, q12, q13⟩ := q; exact ⟨q0, q1, q2, jG.calling g mk a qK, q10, q11, q12, q13⟩, fun U hU hW => ⟨rfl, hU, hh_4.2.1, hG.step hW hU hh_4.1, hg_yt, jP.nil, (hh_4.2.2.2.2.2.2.2.1.sub (L1 := [(yt, 101, 1500, ca 1, ft)]) [0] rfl), by first | omega | (refine ⟨?_, ?_, ?_, ?_⟩ <;> (first | omega | rfl | assumption | decide | exact Or.inl rfl | exact Or.inr rfl | (simp only; omega)))⟩⟩ rfl rfl hl.1 rfl (lv_room (Nat.le_of_ble_eq_true rfl)) dX14_part_18 ⟨Nat.zero_le _, Nat.zero_le _⟩) hh_4.1 (fun q _ h => h) (fun q h => h) (fun r_6 u_5 t_5 H_5 locs_5 ht_5 hvm_5 hr_6 hb_5 hz_5 hk_5 hS_5 => ?_)
  rw [ht_5] at hb_5
  obtain ⟨hb_51, hb_52, hb_53, hb_54, hb_55⟩ := hb_5
  have hh_5 : jSt (dC, dI) B base G0 G0 EX14_partD s.heap 0 0 [(r0, 14, 5, .int 0), (r0, 14, 3, .ref yt), (r0, 14, 4, .int pz), (r0, 14, 6, .ref yb), (r0, 14, 7, .ref ye)] [(yt, 101, 1500, ca 1, ft), (yb, 190, 40, ca 1, fb), (ye, 191, 40, ca 1, fe)] [(jFs, jDY dC dI ca G0 (some r0) sn)] H_5 locs_5 := ((hh_4.call hb_51 hb_52 hb_53 hb_54 hS_5 rfl (L1 := [(r0, 14, 5, .int 0), (r0, 14, 3, .ref yt), (r0, 14, 4, .int pz), (r0, 14, 6, .ref yb), (r0, 14, 7, .ref ye)]) [0, 1, 2, 3, 4] rfl rfl (M1 := [(yt, 101, 1500, ca 1, ft), (yb, 190, 40, ca 1, fb), (ye, 191, 40, ca 1, fe)]) [0, 1, 2] rfl rfl (I1 := [(jFs, jDY dC dI ca G0 (some r0) sn)]) [0] rfl rfl).more hb_55)
  clear hh_4 ht_5 hvm_5 hz_5 hk_5 hS_5 hb_51 hb_52 hb_53 hb_54 hb_55
  obtain ⟨hr_6_0, hr_6_1, hr_6_2⟩ := hr_6
  rw [hk0] at hr_6_0
  refine lv_istore_n (lv' := [(3, .int r_6), (2, .int pz), (1, .ref yt), (0, .ref r0)]) hx hb dX14_part_21 rfl hl (by decide) rfl (fun ls hl => ?_)
  have L22 : ∀ (N : Nat) (v3_7 : Int32) (wz_7 : Int32) (fb_7 : Nat → Int32) (fe_7 : Nat → Int32) (kf : Nat) (H_7 : Heap) (locs_7 : List Loc), jSt (dC, dI) B base G0 G0 EX14_partD s.heap 0 0 [(r0, 14, 5, .int wz_7), (r0, 14, 3, .ref yt), (r0, 14, 4, .int pz), (r0, 14, 6, .ref yb), (r0, 14, 7, .ref ye)] [(ye, 191, 40, ca 1, fe_7), (yb, 190, 40, ca 1, fb_7), (yt, 101, 1500, ca 1, ft)] [(jFs, jDY dC dI ca G0 (some r0) sn)] H_7 locs_7 → (0 ≤ v3_7.toInt ∧ v3_7.toInt ≤ pz.toInt ∧ 0 ≤ wz_7.toInt ∧ wz_7.toInt ≤ 40 ∧ (v3_7.toInt = pz.toInt ∨ wz_7.toInt ≤ 39) ∧ pz.toInt - v3_7.toInt + 1 < kf ∧ jPn ft pz.toInt kf v3_7.toInt wz_7.toInt = jPar ft pz.toInt ∧ jSrt fb_7 fe_7 wz_7.toInt v3_7.toInt) → (pz.toInt - v3_7.toInt : Int) < N → ∀ ls : Array Slot, lv_has ls 6 [(0, .ref r0), (1, .ref yt), (2, .int pz), (3, .int v3_7)] → W p l e R s m ([.ref r0] : List Value).toArray below meth c H_7 locs_7 0 0 Q (F0 m 22 ls []) := by
    intro N
    induction N with
    | zero => intro v3_7 wz_7 fb_7 fe_7 kf H_7 locs_7 hh_7  hi_7 hm; exact absurd hm (by omega)
    | succ N L22 =>
      intro v3_7 wz_7 fb_7 fe_7 kf H_7 locs_7 hh_7  hi_7 hm_7 ls hl
      obtain ⟨hi_7_0, hi_7_1, hi_7_2, hi_7_3, hi_7_4, hi_7_5, hi_7_6, hi_7_7⟩ := hi_7
      refine lv_iload_n hx hb dX14_part_22 rfl (lv_at hl 3 rfl) ?_
      refine lv_iload_n hx hb dX14_part_23 rfl (lv_at hl 2 rfl) ?_
      refine lv_icmp_ge (tgt := 140) hx hb dX14_part_24 (by decide) (fun c_8 => ?_) (fun c_8 => ?_)
      · skip
        have c_8' : v3_7.toInt ≥ pz.toInt := jb_ge (rfl) (rfl) c_8
        rw [hQ]
        exact W.vret hx hb hr (fun t ht hW => ⟨⟨(wz_7, fb_7, fe_7), rfl, by (try dsimp only); refine ⟨?_, by omega, by omega, ?_⟩; exact (jPn_o (by omega) (by omega) rfl).trans hi_7_6; (have h9 := hi_7_7; exact h9.up (by omega)), ⟨⟨hh_7.rt (M1 := [(r0, 14, 5, .int wz_7)]) [0] rfl ht, by rw [ht]; exact hh_7.2.2.2.2.2.2.2.1.sub [1, 0] rfl⟩, by rw [ht]; exact hh_7.2.2.2.2.2.2.2.2.sub (L1 := [(jFs, jDY dC dI ca G0 (some r0) sn)]) [0] rfl⟩⟩, by rw [ht]; try exact hh_7.1.1, fun q h9 hq => by rw [ht]; try exact hh_7.1.2.1 q h9 hq⟩) hh_7.1.2.2 dX14_part_140
      · skip
        have c_8' : v3_7.toInt < pz.toInt := jb_ge_n (rfl) (rfl) c_8
        refine lv_aload_n hx hb dX14_part_27 rfl (lv_at hl 0 rfl) ?_
        refine j7_readN hx hb hown hK (C := RX12) (T := TX12) (N := 11) rfl hly_14_5 hlk_587 (hh_7.at 0 rfl) dX14_part_28 ?_
        refine lv_istore (lv' := [(4, .int wz_7), (0, .ref r0), (1, .ref yt), (2, .int pz), (3, .int v3_7)]) hx hb dX14_part_31 hl (by decide) rfl (fun ls hl => ?_)
        refine lv_aload_n hx hb dX14_part_33 rfl (lv_at hl 1 rfl) ?_
        refine lv_dup hx hb dX14_part_34 rfl ?_
        refine j7_readN hx hb hown hK (C := RX12) (T := TX12) (N := 11) rfl hly_14_5 hlk_587 (hh_7.at 0 rfl) dX14_part_35 ?_
        refine lv_iconst (v := 1) hx hb dX14_part_38 (by decide) ?_
        refine lv_iadd hx hb dX14_part_39 ?_
        refine lv_topi (fun z_9 ez_9 => ?_)
        have hz_9 : z_9.toInt = wz_7.toInt + 1 := by rw [ez_9]; exact jb_iadd2 (rfl) ((by decide)) (by omega)
        have hd_11 := hh_7.iv 0 rfl
        have hh_12 := hh_7.sub (L1 := [(r0, 14, 5, .int wz_7), (r0, 14, 3, .ref yt), (r0, 14, 4, .int pz), (r0, 14, 6, .ref yb), (r0, 14, 7, .ref ye)]) [0, 1, 2, 3, 4] rfl (M1 := [(ye, 191, 40, ca 1, fe_7), (yb, 190, 40, ca 1, fb_7), (yt, 101, 1500, ca 1, ft)]) [0, 1, 2] rfl (I1 := []) [] rfl
        clear hh_7
        refine j7_putNX hx hb hown hK hh_12 hB hAp hB14 (C := RX12) (T := TX12) (N := 11) rfl (by decide) hg_r0 (i := 5) (by decide) hly_14_5 rfl hlk_587 rfl (ty := .int) (v := .int z_9) (by decide +kernel) rfl rfl (⟨_, rfl, by omega, by omega⟩) rfl (L1 := [(r0, 14, 3, .ref yt), (r0, 14, 4, .int pz), (r0, 14, 6, .ref yb), (r0, 14, 7, .ref ye)]) [1, 2, 3, 4] rfl rfl rfl dX14_part_40 (fun H_10 locs_10 hr_10 hf_10 hh_10 => ?_)
        clear hh_12
        have hd_11n := jDY.fld hd_11 hg_r0 hr_10 hf_10
        have hh_13 := hh_10.addI (jDY.ie hd_11n)
        clear hh_10
        clear hd_11 hd_11n hr_10 hf_10
        refine lv_aload_n hx hb dX14_part_43 rfl (lv_at hl 1 rfl) ?_
        refine j7_readN hx hb hown hK (C := RX12) (T := TX12) (N := 11) rfl hly_14_6 hlk_596 (hh_13.at 3 rfl) dX14_part_44 ?_
        refine lv_iload hx hb dX14_part_47 (lv_at hl 0 rfl) ?_
        refine lv_iload_n hx hb dX14_part_49 rfl (lv_at hl 4 rfl) ?_
        have hd_15 := hh_13.iv 0 rfl
        have hh_16 := hh_13.sub (L1 := [(r0, 14, 5, .int z_9), (r0, 14, 3, .ref yt), (r0, 14, 4, .int pz), (r0, 14, 6, .ref yb), (r0, 14, 7, .ref ye)]) [0, 1, 2, 3, 4] rfl (M1 := [(ye, 191, 40, ca 1, fe_7), (yb, 190, 40, ca 1, fb_7), (yt, 101, 1500, ca 1, ft)]) [0, 1, 2] rfl (I1 := []) [] rfl
        clear hh_13
        have hd_15f := hh_16.at 3 rfl
        refine j7_iastX hx hb hK hh_16 hB hB190 1 rfl (by decide) (by decide) rfl 1 rfl (M1 := [(ye, 191, 40, ca 1, fe_7), (yt, 101, 1500, ca 1, ft)]) [0, 2] rfl rfl rfl hg_yb (x := wz_7.toInt) (rfl) (by omega) (by first | omega | (refine ⟨?_, ?_⟩ <;> (first | omega | rfl | assumption | decide | exact Or.inl rfl | exact Or.inr rfl | (simp only; omega)))) dX14_part_50 (fun H_14 locs_14 fs_17 hv_14 ho_14 hr_14 hh_14 => ?_)
        have hv_14 : jSo fs_17 (wz_7.toInt) = v3_7.toInt := by unfold jSo; rw [hv_14]; try exact rfl
        clear hh_16
        have hd_15n := jDY.arr hd_15 hg_r0 hg_yb (Or.inl ⟨rfl, hd_15f⟩) hr_14
        have hh_18 := hh_14.addI (jDY.ie hd_15n)
        clear hh_14
        clear hd_15 hd_15f hd_15n hr_14
        refine lv_aload_n hx hb dX14_part_51 rfl (lv_at hl 2 rfl) ?_
        refine lv_iload_n hx hb dX14_part_52 rfl (lv_at hl 4 rfl) ?_
        refine lv_iload_n hx hb dX14_part_53 rfl (lv_at hl 3 rfl) ?_
        refine va_calli (A0 := jA base) (H0 := s.heap) (va_runS (As := [.ref yt, .int v3_7, .int pz]) (rest := []) ⟨hx, hb, hml, hown, hts⟩ (uX14_sentenceEndK l dC dI ca base B hB hAp hB101 G0 H_14 yt v3_7 pz 1500 ft) (va_cwS 3 hts (jgS (jWr_58 _ (List.mem_of_getElem? (i := 4) rfl)) (jWr_58 _ (List.mem_of_getElem? (i := 5) rfl)) (jWr_1 _ (List.mem_of_getElem? (i := 5) rfl)) (jWr_58 _ (List.mem_of_getElem? (i := 6) rfl))) rfl rfl rfl (by decide +kernel) ⟨by rw [← hR]; exact Nat.le_of_ble_eq_true rfl, by rw [← hR]; exact Nat.le_of_ble_eq_true rfl⟩) ⟨fun a U g mk q => by obtain ⟨q0, q1, q2, qK, q10, q11, q12, q13⟩ := q; exact ⟨q0, q1, q2, jG.calling g mk a qK, q10, q11, q12, q13⟩, fun U hU hW => ⟨rfl, hU, hh_18.2.1, hG.step hW hU hh_18.1, hg_yt, jP.nil, (hh_18.2.2.2.2.2.2.2.1.sub (L1 := [(yt, 101, 1500, ca 1, ft)]) [2] rfl), by first | omega | (refine ⟨?_, ?_, ?_, ?_⟩ <;> (first | omega | rfl | assumption | decide | exact Or.inl rfl | exact Or.inr rfl | (simp only; omega)))⟩⟩ rfl rfl hl.1 rfl (lv_room (Nat.le_of_ble_eq_true rfl)) dX14_part_54 ⟨Nat.zero_le _, Nat.zero_le _⟩) hh_18.1 (fun q _ h => h) (fun q h => h) (fun r_20 u_19 t_19 H_19 locs_19 ht_19 hvm_19 hr_20 hb_19 hz_19 hk_19 hS_19 => ?_)
        rw [ht_19] at hb_19
        obtain ⟨hb_191, hb_192, hb_193, hb_194, hb_195⟩ := hb_19
        have hh_19 : jSt (dC, dI) B base G0 G0 EX14_partD s.heap 0 0 [(r0, 14, 5, .int z_9), (r0, 14, 3, .ref yt), (r0, 14, 4, .int pz), (r0, 14, 6, .ref yb), (r0, 14, 7, .ref ye)] [(yb, 190, 40, ca 1, fs_17), (ye, 191, 40, ca 1, fe_7), (yt, 101, 1500, ca 1, ft)] [(jFs, jDY dC dI ca G0 (some r0) sn)] H_19 locs_19 := ((hh_18.call hb_191 hb_192 hb_193 hb_194 hS_19 rfl (L1 := [(r0, 14, 5, .int z_9), (r0, 14, 3, .ref yt), (r0, 14, 4, .int pz), (r0, 14, 6, .ref yb), (r0, 14, 7, .ref ye)]) [0, 1, 2, 3, 4] rfl rfl (M1 := [(yb, 190, 40, ca 1, fs_17), (ye, 191, 40, ca 1, fe_7), (yt, 101, 1500, ca 1, ft)]) [0, 1, 2] rfl rfl (I1 := [(jFs, jDY dC dI ca G0 (some r0) sn)]) [0] rfl rfl).more hb_195)
        clear hh_18 ht_19 hvm_19 hz_19 hk_19 hS_19 hb_191 hb_192 hb_193 hb_194 hb_195
        obtain ⟨hr_20_0, hr_20_1, hr_20_2, hr_20_3⟩ := hr_20
        refine lv_istore (lv' := [(5, .int r_20), (4, .int wz_7), (0, .ref r0), (1, .ref yt), (2, .int pz), (3, .int v3_7)]) hx hb dX14_part_57 hl (by decide) rfl (fun ls hl => ?_)
        refine lv_aload_n hx hb dX14_part_59 rfl (lv_at hl 2 rfl) ?_
        obtain ⟨v_21, hv_21, hh_22⟩ := hh_19.pin (C := RX12) (T := TX12) (N := 11) hB14 rfl (by decide) hg_r0 (i := 8) (by decide) rfl
        clear hh_19
        obtain ⟨flaw_23, rfl, hg_flaw_23⟩ := hv_21
        refine j7_readN hx hb hown hK (C := RX12) (T := TX12) (N := 11) rfl hly_14_8 hlk_599 (hh_22.at 0 rfl) dX14_part_60 ?_
        refine lv_iload hx hb dX14_part_63 (lv_at hl 1 rfl) ?_
        refine lv_iload hx hb dX14_part_65 (lv_at hl 0 rfl) ?_
        have C75 : ∀ (w0_24 : Int32) (H_24 : Heap) (locs_24 : List Loc), jSt (dC, dI) B base G0 G0 EX14_partD s.heap 0 0 [(r0, 14, 8, .ref flaw_23), (r0, 14, 5, .int z_9), (r0, 14, 3, .ref yt), (r0, 14, 4, .int pz), (r0, 14, 6, .ref yb), (r0, 14, 7, .ref ye)] [(yb, 190, 40, ca 1, fs_17), (ye, 191, 40, ca 1, fe_7), (yt, 101, 1500, ca 1, ft)] [(jFs, jDY dC dI ca G0 (some r0) sn)] H_24 locs_24 → (w0_24 = 0 ∨ w0_24 = 1) → (0 ≤ w0_24.toInt ∧ w0_24.toInt ≤ 1 ∧ (r_20.toInt = -1 ∨ v3_7.toInt < r_20.toInt)) → ∀ ls : Array Slot, lv_has ls 6 [(0, .ref r0), (1, .ref yt), (2, .int pz), (3, .int v3_7), (4, .int wz_7), (5, .int r_20)] → W p l e R s m ([.ref r0] : List Value).toArray below meth c H_24 locs_24 0 0 Q (F0 m 75 ls [.int w0_24, .int wz_7, .ref flaw_23]) := by
          intro w0_24 H_24 locs_24 hh_24 hb_w0_24 hi_24 ls hl
          obtain ⟨hi_24_0, hi_24_1, hi_24_2⟩ := hi_24
          have hb_w0_24' := jb_01 hb_w0_24
          try clear hr_20_3
          refine j7_iast hx hb hK hh_24 hB hB192 1 rfl (by decide) (by decide) rfl rfl rfl hg_flaw_23 (x := wz_7.toInt) (rfl) (by omega) (by first | omega | (refine ⟨?_, ?_⟩ <;> (first | omega | rfl | assumption | decide | exact Or.inl rfl | exact Or.inr rfl | (simp only; omega)))) dX14_part_75 (fun H_25 locs_25 hh_25 => ?_)
          clear hh_24
          refine lv_aload_n hx hb dX14_part_76 rfl (lv_at hl 0 rfl) ?_
          refine j7_readN hx hb hown hK (C := RX12) (T := TX12) (N := 11) rfl hly_14_7 hlk_594 (hh_25.at 5 rfl) dX14_part_77 ?_
          refine lv_iload hx hb dX14_part_80 (lv_at hl 4 rfl) ?_
          refine lv_iload hx hb dX14_part_82 (lv_at hl 5 rfl) ?_
          have C93 : ∀ (w0_26 : Int32) (H_26 : Heap) (locs_26 : List Loc), jSt (dC, dI) B base G0 G0 EX14_partD s.heap 0 0 [(r0, 14, 8, .ref flaw_23), (r0, 14, 5, .int z_9), (r0, 14, 3, .ref yt), (r0, 14, 4, .int pz), (r0, 14, 6, .ref yb), (r0, 14, 7, .ref ye)] [(yb, 190, 40, ca 1, fs_17), (ye, 191, 40, ca 1, fe_7), (yt, 101, 1500, ca 1, ft)] [(jFs, jDY dC dI ca G0 (some r0) sn)] H_26 locs_26 → (w0_26.toInt = jEn ft pz.toInt v3_7.toInt ∧ v3_7.toInt < w0_26.toInt ∧ w0_26.toInt ≤ pz.toInt) → ∀ ls : Array Slot, lv_has ls 6 [(0, .ref r0), (1, .ref yt), (2, .int pz), (3, .int v3_7), (4, .int wz_7), (5, .int r_20)] → W p l e R s m ([.ref r0] : List Value).toArray below meth c H_26 locs_26 0 0 Q (F0 m 93 ls [.int w0_26, .int wz_7, .ref ye]) := by
            intro w0_26 H_26 locs_26 hh_26  hi_26 ls hl
            obtain ⟨hi_26_0, hi_26_1, hi_26_2⟩ := hi_26
            have hd_28 := hh_26.iv 0 rfl
            have hh_29 := hh_26.sub (L1 := [(r0, 14, 8, .ref flaw_23), (r0, 14, 5, .int z_9), (r0, 14, 3, .ref yt), (r0, 14, 4, .int pz), (r0, 14, 6, .ref yb), (r0, 14, 7, .ref ye)]) [0, 1, 2, 3, 4, 5] rfl (M1 := [(yb, 190, 40, ca 1, fs_17), (ye, 191, 40, ca 1, fe_7), (yt, 101, 1500, ca 1, ft)]) [0, 1, 2] rfl (I1 := []) [] rfl
            clear hh_26
            have hd_28f := hh_29.at 5 rfl
            refine j7_iastX hx hb hK hh_29 hB hB191 1 rfl (by decide) (by decide) rfl 1 rfl (M1 := [(yb, 190, 40, ca 1, fs_17), (yt, 101, 1500, ca 1, ft)]) [0, 2] rfl rfl rfl hg_ye (x := wz_7.toInt) (rfl) (by omega) (by first | omega | (refine ⟨?_, ?_⟩ <;> (first | omega | rfl | assumption | decide | exact Or.inl rfl | exact Or.inr rfl | (simp only; omega)))) dX14_part_93 (fun H_27 locs_27 fs_30 hv_27 ho_27 hr_27 hh_27 => ?_)
            have hv_27 : jSo fs_30 (wz_7.toInt) = w0_26.toInt := by unfold jSo; rw [hv_27]; try exact rfl
            clear hh_29
            have hd_28n := jDY.arr hd_28 hg_r0 hg_ye (Or.inr ⟨rfl, hd_28f⟩) hr_27
            have hh_31 := hh_27.addI (jDY.ie hd_28n)
            clear hh_27
            clear hd_28 hd_28f hd_28n hr_27
            refine lv_aload_n hx hb dX14_part_94 rfl (lv_at hl 1 rfl) ?_
            refine lv_aload_n hx hb dX14_part_95 rfl (lv_at hl 0 rfl) ?_
            refine j7_readN hx hb hown hK (C := RX12) (T := TX12) (N := 11) rfl hly_14_7 hlk_594 (hh_31.at 5 rfl) dX14_part_96 ?_
            refine lv_iload hx hb dX14_part_99 (lv_at hl 4 rfl) ?_
            refine j7_ialdM hx hb hK hh_31 hB191 1 rfl (by decide) hg_ye (x := wz_7.toInt) (rfl) (by omega) (j := 0) rfl dX14_part_101 (fun z_32 ez_32 (hz_32 : 0 ≤ z_32.toInt ∧ z_32.toInt ≤ 1500) => ?_)
            have hqz_32 : z_32.toInt = jSo fs_30 (wz_7.toInt) := by unfold jSo; rw [ez_32]
            refine lv_iload_n hx hb dX14_part_102 rfl (lv_at hl 2 rfl) ?_
            refine va_calli (A0 := jA base) (H0 := s.heap) (va_runS (As := [.ref yt, .int z_32, .int pz]) (rest := []) ⟨hx, hb, hml, hown, hts⟩ (uX14_behindGapsK l dC dI ca base B hB hAp hB101 G0 H_27 yt z_32 pz 1500 ft) (va_cwS 3 hts (jgS (jWr_57 _ (List.mem_of_getElem? (i := 13) rfl)) (jWr_57 _ (List.mem_of_getElem? (i := 14) rfl)) (jWr_1 _ (List.mem_of_getElem? (i := 5) rfl)) (jWr_57 _ (List.mem_of_getElem? (i := 15) rfl))) rfl rfl rfl (by decide +kernel) ⟨by rw [← hR]; exact Nat.le_of_ble_eq_true rfl, by rw [← hR]; exact Nat.le_of_ble_eq_true rfl⟩) ⟨fun a U g mk q => by obtain ⟨q0, q1, q2, qK, q10, q11, q12, q13⟩ := q; exact ⟨q0, q1, q2, jG.calling g mk a qK, q10, q11, q12, q13⟩, fun U hU hW => ⟨rfl, hU, hh_31.2.1, hG.step hW hU hh_31.1, hg_yt, jP.nil, (hh_31.2.2.2.2.2.2.2.1.sub (L1 := [(yt, 101, 1500, ca 1, ft)]) [2] rfl), by first | omega | (refine ⟨?_, ?_, ?_, ?_⟩ <;> (first | omega | rfl | assumption | decide | exact Or.inl rfl | exact Or.inr rfl | (simp only; omega)))⟩⟩ rfl rfl hl.1 rfl (lv_room (Nat.le_of_ble_eq_true rfl)) dX14_part_103 ⟨Nat.zero_le _, Nat.zero_le _⟩) hh_31.1 (fun q _ h => h) (fun q h => h) (fun r_34 u_33 t_33 H_33 locs_33 ht_33 hvm_33 hr_34 hb_33 hz_33 hk_33 hS_33 => ?_)
            rw [ht_33] at hb_33
            obtain ⟨hb_331, hb_332, hb_333, hb_334, hb_335⟩ := hb_33
            have hh_33 : jSt (dC, dI) B base G0 G0 EX14_partD s.heap 0 0 [(r0, 14, 8, .ref flaw_23), (r0, 14, 5, .int z_9), (r0, 14, 3, .ref yt), (r0, 14, 4, .int pz), (r0, 14, 6, .ref yb), (r0, 14, 7, .ref ye)] [(ye, 191, 40, ca 1, fs_30), (yb, 190, 40, ca 1, fs_17), (yt, 101, 1500, ca 1, ft)] [(jFs, jDY dC dI ca G0 (some r0) sn)] H_33 locs_33 := ((hh_31.call hb_331 hb_332 hb_333 hb_334 hS_33 rfl (L1 := [(r0, 14, 8, .ref flaw_23), (r0, 14, 5, .int z_9), (r0, 14, 3, .ref yt), (r0, 14, 4, .int pz), (r0, 14, 6, .ref yb), (r0, 14, 7, .ref ye)]) [0, 1, 2, 3, 4, 5] rfl rfl (M1 := [(ye, 191, 40, ca 1, fs_30), (yb, 190, 40, ca 1, fs_17), (yt, 101, 1500, ca 1, ft)]) [0, 1, 2] rfl rfl (I1 := [(jFs, jDY dC dI ca G0 (some r0) sn)]) [0] rfl rfl).more hb_335)
            clear hh_31 ht_33 hvm_33 hz_33 hk_33 hS_33 hb_331 hb_332 hb_333 hb_334 hb_335
            obtain ⟨hr_34_0, hr_34_1, hr_34_2⟩ := hr_34
            refine lv_istore_n (lv' := [(3, .int r_34), (0, .ref r0), (1, .ref yt), (2, .int pz), (4, .int wz_7), (5, .int r_20)]) hx hb dX14_part_106 rfl hl (by decide) rfl (fun ls hl => ?_)
            refine lv_iload hx hb dX14_part_107 (lv_at hl 4 rfl) ?_
            refine lv_bipush (v := 39) hx hb dX14_part_109 (by decide) ?_
            refine lv_icmp_ne (tgt := 137) hx hb dX14_part_111 (by decide) (fun c_35 => ?_) (fun c_35 => ?_)
            · skip
              have c_35' : wz_7.toInt ≠ 39 := jb_ne (rfl) ((by decide)) c_35
              refine lv_goto (tgt := 22) hx hb dX14_part_137 (by decide) ?_
              exact L22 r_34 z_9 fs_17 fs_30 (kf - 1) _ _ (hh_33.sub (L1 := [(r0, 14, 5, .int z_9), (r0, 14, 3, .ref yt), (r0, 14, 4, .int pz), (r0, 14, 6, .ref yb), (r0, 14, 7, .ref ye)]) [1, 2, 3, 4, 5] rfl (M1 := [(ye, 191, 40, ca 1, fs_30), (yb, 190, 40, ca 1, fs_17), (yt, 101, 1500, ca 1, ft)]) [0, 1, 2] rfl (I1 := [(jFs, jDY dC dI ca G0 (some r0) sn)]) [0] rfl) (by refine ⟨by omega, by omega, by omega, by omega, by omega, by omega, ?_, ?_⟩; (first | exact (jPn_m (by omega) (by omega) (by omega) (by rw [hr_34_0, hqz_32, hv_27, hi_26_0]) (by omega)).trans hi_7_6 | exact (jPn_l (by omega) (by omega) (by omega) (by omega) (by omega) (by omega)).trans hi_7_6); (first | exact hi_7_7.app (jUpd.mk (n := 40) hv_14 ho_14 rfl (by omega)) (jUpd.mk (n := 40) hv_27 ho_27 rfl (by omega)) (by omega) (by omega) (by omega) (by omega) (by omega) (by omega) | exact hi_7_7.app (jUpd.mk (n := 40) hv_14 ho_14 rfl (by omega)) ((jUpd.mk (n := 40) hv_27 ho_27 rfl (by omega)).two (jUpd.mk (n := 40) (zz_none) (zz_none) rfl (by omega))) (by omega) (by omega) (by omega) (by omega) (by omega) (by omega))) (by omega) _ (lv_sub hl [1, 2, 3, 0] rfl)
            · skip
              have c_35' : wz_7.toInt = 39 := jb_ne_n (rfl) ((by decide)) c_35
              refine lv_iload_n hx hb dX14_part_114 rfl (lv_at hl 0 rfl) ?_
              refine lv_iload_n hx hb dX14_part_115 rfl (lv_at hl 3 rfl) ?_
              refine lv_icmp_ge (tgt := 137) hx hb dX14_part_116 (by decide) (fun c_36 => ?_) (fun c_36 => ?_)
              · skip
                have c_36' : r_34.toInt ≥ pz.toInt := jb_ge (rfl) (rfl) c_36
                refine lv_goto (tgt := 22) hx hb dX14_part_137 (by decide) ?_
                exact L22 r_34 z_9 fs_17 fs_30 (kf - 1) _ _ (hh_33.sub (L1 := [(r0, 14, 5, .int z_9), (r0, 14, 3, .ref yt), (r0, 14, 4, .int pz), (r0, 14, 6, .ref yb), (r0, 14, 7, .ref ye)]) [1, 2, 3, 4, 5] rfl (M1 := [(ye, 191, 40, ca 1, fs_30), (yb, 190, 40, ca 1, fs_17), (yt, 101, 1500, ca 1, ft)]) [0, 1, 2] rfl (I1 := [(jFs, jDY dC dI ca G0 (some r0) sn)]) [0] rfl) (by refine ⟨by omega, by omega, by omega, by omega, by omega, by omega, ?_, ?_⟩; (first | exact (jPn_m (by omega) (by omega) (by omega) (by rw [hr_34_0, hqz_32, hv_27, hi_26_0]) (by omega)).trans hi_7_6 | exact (jPn_l (by omega) (by omega) (by omega) (by omega) (by omega) (by omega)).trans hi_7_6); (first | exact hi_7_7.app (jUpd.mk (n := 40) hv_14 ho_14 rfl (by omega)) (jUpd.mk (n := 40) hv_27 ho_27 rfl (by omega)) (by omega) (by omega) (by omega) (by omega) (by omega) (by omega) | exact hi_7_7.app (jUpd.mk (n := 40) hv_14 ho_14 rfl (by omega)) ((jUpd.mk (n := 40) hv_27 ho_27 rfl (by omega)).two (jUpd.mk (n := 40) (zz_none) (zz_none) rfl (by omega))) (by omega) (by omega) (by omega) (by omega) (by omega) (by omega))) (by omega) _ (lv_sub hl [1, 2, 3, 0] rfl)
              · skip
                have c_36' : r_34.toInt < pz.toInt := jb_ge_n (rfl) (rfl) c_36
                refine lv_aload_n hx hb dX14_part_119 rfl (lv_at hl 1 rfl) ?_
                refine j7_readN hx hb hown hK (C := RX12) (T := TX12) (N := 11) rfl hly_14_8 hlk_599 (hh_33.at 0 rfl) dX14_part_120 ?_
                refine lv_iload hx hb dX14_part_123 (lv_at hl 4 rfl) ?_
                refine lv_iconst (v := 2) hx hb dX14_part_125 (by decide) ?_
                refine j7_iast hx hb hK hh_33 hB hB192 1 rfl (by decide) (by decide) rfl rfl rfl hg_flaw_23 (x := wz_7.toInt) (rfl) (by omega) (by first | omega | (refine ⟨?_, ?_⟩ <;> (first | omega | rfl | assumption | decide | exact Or.inl rfl | exact Or.inr rfl | (simp only; omega)))) dX14_part_126 (fun H_37 locs_37 hh_37 => ?_)
                clear hh_33
                refine lv_aload_n hx hb dX14_part_127 rfl (lv_at hl 1 rfl) ?_
                refine j7_readN hx hb hown hK (C := RX12) (T := TX12) (N := 11) rfl hly_14_7 hlk_594 (hh_37.at 5 rfl) dX14_part_128 ?_
                refine lv_iload hx hb dX14_part_131 (lv_at hl 4 rfl) ?_
                refine lv_iload_n hx hb dX14_part_133 rfl (lv_at hl 3 rfl) ?_
                have hd_39 := hh_37.iv 0 rfl
                have hh_40 := hh_37.sub (L1 := [(r0, 14, 8, .ref flaw_23), (r0, 14, 5, .int z_9), (r0, 14, 3, .ref yt), (r0, 14, 4, .int pz), (r0, 14, 6, .ref yb), (r0, 14, 7, .ref ye)]) [0, 1, 2, 3, 4, 5] rfl (M1 := [(ye, 191, 40, ca 1, fs_30), (yb, 190, 40, ca 1, fs_17), (yt, 101, 1500, ca 1, ft)]) [0, 1, 2] rfl (I1 := []) [] rfl
                clear hh_37
                have hd_39f := hh_40.at 5 rfl
                refine j7_iastX hx hb hK hh_40 hB hB191 1 rfl (by decide) (by decide) rfl 0 rfl (M1 := [(yb, 190, 40, ca 1, fs_17), (yt, 101, 1500, ca 1, ft)]) [1, 2] rfl rfl rfl hg_ye (x := wz_7.toInt) (rfl) (by omega) (by first | omega | (refine ⟨?_, ?_⟩ <;> (first | omega | rfl | assumption | decide | exact Or.inl rfl | exact Or.inr rfl | (simp only; omega)))) dX14_part_134 (fun H_38 locs_38 fs_41 hv_38 ho_38 hr_38 hh_38 => ?_)
                have hv_38 : jSo fs_41 (wz_7.toInt) = pz.toInt := by unfold jSo; rw [hv_38]; try exact rfl
                clear hh_40
                have hd_39n := jDY.arr hd_39 hg_r0 hg_ye (Or.inr ⟨rfl, hd_39f⟩) hr_38
                have hh_42 := hh_38.addI (jDY.ie hd_39n)
                clear hh_38
                clear hd_39 hd_39f hd_39n hr_38
                refine lv_iload_n hx hb dX14_part_135 rfl (lv_at hl 3 rfl) ?_
                refine lv_istore_n (lv' := [(3, .int pz), (0, .ref r0), (1, .ref yt), (2, .int pz), (4, .int wz_7), (5, .int r_20)]) hx hb dX14_part_136 rfl hl (by decide) rfl (fun ls hl => ?_)
                refine lv_goto (tgt := 22) hx hb dX14_part_137 (by decide) ?_
                exact L22 pz z_9 fs_17 fs_41 (kf - 1) _ _ (hh_42.sub (L1 := [(r0, 14, 5, .int z_9), (r0, 14, 3, .ref yt), (r0, 14, 4, .int pz), (r0, 14, 6, .ref yb), (r0, 14, 7, .ref ye)]) [1, 2, 3, 4, 5] rfl (M1 := [(ye, 191, 40, ca 1, fs_41), (yb, 190, 40, ca 1, fs_17), (yt, 101, 1500, ca 1, ft)]) [0, 1, 2] rfl (I1 := [(jFs, jDY dC dI ca G0 (some r0) sn)]) [0] rfl) (by refine ⟨by omega, by omega, by omega, by omega, by omega, by omega, ?_, ?_⟩; (first | exact (jPn_m (by omega) (by omega) (by omega) (by rw [hr_34_0, hqz_32, hv_27, hi_26_0]) (by omega)).trans hi_7_6 | exact (jPn_l (by omega) (by omega) (by omega) (by omega) (by omega) (by omega)).trans hi_7_6); (first | exact hi_7_7.app (jUpd.mk (n := 40) hv_14 ho_14 rfl (by omega)) (jUpd.mk (n := 40) hv_27 ho_27 rfl (by omega)) (by omega) (by omega) (by omega) (by omega) (by omega) (by omega) | exact hi_7_7.app (jUpd.mk (n := 40) hv_14 ho_14 rfl (by omega)) ((jUpd.mk (n := 40) hv_27 ho_27 rfl (by omega)).two (jUpd.mk (n := 40) hv_38 ho_38 rfl (by omega))) (by omega) (by omega) (by omega) (by omega) (by omega) (by omega))) (by omega) _ (lv_sub hl [1, 2, 3, 0] rfl)
          refine lv_if_ge (tgt := 91) hx hb dX14_part_84 (by decide) (fun c_43 => ?_) (fun c_43 => ?_)
          · skip
            have c_43' : r_20.toInt ≥ 0 := jb_ge (rfl) ((by decide)) c_43
            refine lv_iload hx hb dX14_part_91 (lv_at hl 5 rfl) ?_
            exact C93 r_20 _ _ hh_25 (⟨(by first | omega | rfl | assumption | (unfold jEn; rw [if_pos (by omega)]) | (unfold jEn; rw [if_neg (by omega)]; omega)), (by first | omega | rfl | assumption | (unfold jEn; rw [if_pos (by omega)]) | (unfold jEn; rw [if_neg (by omega)]; omega)), (by first | omega | rfl | assumption | (unfold jEn; rw [if_pos (by omega)]) | (unfold jEn; rw [if_neg (by omega)]; omega))⟩) _ (lv_sub hl [0, 1, 2, 3, 4, 5] rfl)
          · skip
            have c_43' : r_20.toInt < 0 := jb_ge_n (rfl) ((by decide)) c_43
            refine lv_iload_n hx hb dX14_part_87 rfl (lv_at hl 2 rfl) ?_
            refine lv_goto (tgt := 93) hx hb dX14_part_88 (by decide) ?_
            exact C93 pz _ _ hh_25 (⟨(by first | omega | rfl | assumption | (unfold jEn; rw [if_pos (by omega)]) | (unfold jEn; rw [if_neg (by omega)]; omega)), (by first | omega | rfl | assumption | (unfold jEn; rw [if_pos (by omega)]) | (unfold jEn; rw [if_neg (by omega)]; omega)), (by first | omega | rfl | assumption | (unfold jEn; rw [if_pos (by omega)]) | (unfold jEn; rw [if_neg (by omega)]; omega))⟩) _ (lv_sub hl [0, 1, 2, 3, 4, 5] rfl)
        refine lv_if_ge (tgt := 74) hx hb dX14_part_67 (by decide) (fun c_44 => ?_) (fun c_44 => ?_)
        · skip
          have c_44' : r_20.toInt ≥ 0 := jb_ge (rfl) ((by decide)) c_44
          first | (have hr_20_3q := hr_20_3.resolve_left (by omega); clear hr_20_3) | (have hr_20_3q := hr_20_3.resolve_right (by omega); clear hr_20_3) | skip
          refine lv_iconst (v := 0) hx hb dX14_part_74 (by decide) ?_
          exact C75 0 _ _ hh_22 (Or.inl rfl) (by first | omega | (refine ⟨?_, ?_, ?_⟩ <;> (first | omega | rfl | assumption | decide | exact Or.inl rfl | exact Or.inr rfl | (simp only; omega)))) _ (lv_sub hl [2, 3, 4, 5, 1, 0] rfl)
        · skip
          have c_44' : r_20.toInt < 0 := jb_ge_n (rfl) ((by decide)) c_44
          first | (have hr_20_3q := hr_20_3.resolve_left (by omega); clear hr_20_3) | (have hr_20_3q := hr_20_3.resolve_right (by omega); clear hr_20_3) | skip
          refine lv_iconst (v := 1) hx hb dX14_part_70 (by decide) ?_
          refine lv_goto (tgt := 75) hx hb dX14_part_71 (by decide) ?_
          exact C75 1 _ _ hh_22 (Or.inr rfl) (by first | omega | (refine ⟨?_, ?_, ?_⟩ <;> (first | omega | rfl | assumption | decide | exact Or.inl rfl | exact Or.inr rfl | (simp only; omega)))) _ (lv_sub hl [2, 3, 4, 5, 1, 0] rfl)
  exact L22 (pz.toInt - (r_6 : Int32).toInt : Int).toNat.succ r_6 0 fb fe ((pz.toInt - jGap ft pz.toInt 0).toNat + 2) _ _ (hh_5.sub (L1 := [(r0, 14, 5, .int 0), (r0, 14, 3, .ref yt), (r0, 14, 4, .int pz), (r0, 14, 6, .ref yb), (r0, 14, 7, .ref ye)]) [0, 1, 2, 3, 4] rfl (M1 := [(ye, 191, 40, ca 1, fe), (yb, 190, 40, ca 1, fb), (yt, 101, 1500, ca 1, ft)]) [2, 1, 0] rfl (I1 := [(jFs, jDY dC dI ca G0 (some r0) sn)]) [0] rfl) (by refine ⟨by omega, by omega, by omega, by omega, by omega, by omega, ?_, ?_⟩; (rw [hr_6_0, hk0]; rfl); (rw [hk0]; exact jSrt.nil _ _ _)) (by omega) _ (lv_sub hl [3, 2, 1, 0] rfl)
end
section
theorem dX14_messageOf_0 : decode cX14_messageOf 0 = .ok (.iload_n 0, 1) := by decide +kernel
theorem dX14_messageOf_1 : decode cX14_messageOf 1 = .ok (.iconst 1, 1) := by decide +kernel
theorem dX14_messageOf_2 : decode cX14_messageOf 2 = .ok (.if_icmp .ne 9, 3) := by decide +kernel
theorem dX14_messageOf_5 : decode cX14_messageOf 5 = .ok (.ldc_w 734, 3) := by decide +kernel
theorem dX14_messageOf_8 : decode cX14_messageOf 8 = .ok (.goto 86, 3) := by decide +kernel
theorem dX14_messageOf_11 : decode cX14_messageOf 11 = .ok (.iload_n 0, 1) := by decide +kernel
theorem dX14_messageOf_12 : decode cX14_messageOf 12 = .ok (.iconst 2, 1) := by decide +kernel
theorem dX14_messageOf_13 : decode cX14_messageOf 13 = .ok (.if_icmp .ne 9, 3) := by decide +kernel
theorem dX14_messageOf_16 : decode cX14_messageOf 16 = .ok (.ldc_w 736, 3) := by decide +kernel
theorem dX14_messageOf_19 : decode cX14_messageOf 19 = .ok (.goto 75, 3) := by decide +kernel
theorem dX14_messageOf_22 : decode cX14_messageOf 22 = .ok (.iload_n 0, 1) := by decide +kernel
theorem dX14_messageOf_23 : decode cX14_messageOf 23 = .ok (.iconst 3, 1) := by decide +kernel
theorem dX14_messageOf_24 : decode cX14_messageOf 24 = .ok (.if_icmp .ne 9, 3) := by decide +kernel
theorem dX14_messageOf_27 : decode cX14_messageOf 27 = .ok (.ldc_w 738, 3) := by decide +kernel
theorem dX14_messageOf_30 : decode cX14_messageOf 30 = .ok (.goto 64, 3) := by decide +kernel
theorem dX14_messageOf_33 : decode cX14_messageOf 33 = .ok (.iload_n 0, 1) := by decide +kernel
theorem dX14_messageOf_34 : decode cX14_messageOf 34 = .ok (.iconst 4, 1) := by decide +kernel
theorem dX14_messageOf_35 : decode cX14_messageOf 35 = .ok (.if_icmp .ne 9, 3) := by decide +kernel
theorem dX14_messageOf_38 : decode cX14_messageOf 38 = .ok (.ldc_w 740, 3) := by decide +kernel
theorem dX14_messageOf_41 : decode cX14_messageOf 41 = .ok (.goto 53, 3) := by decide +kernel
theorem dX14_messageOf_44 : decode cX14_messageOf 44 = .ok (.iload_n 0, 1) := by decide +kernel
theorem dX14_messageOf_45 : decode cX14_messageOf 45 = .ok (.iconst 5, 1) := by decide +kernel
theorem dX14_messageOf_46 : decode cX14_messageOf 46 = .ok (.if_icmp .ne 9, 3) := by decide +kernel
theorem dX14_messageOf_49 : decode cX14_messageOf 49 = .ok (.ldc_w 742, 3) := by decide +kernel
theorem dX14_messageOf_52 : decode cX14_messageOf 52 = .ok (.goto 42, 3) := by decide +kernel
theorem dX14_messageOf_55 : decode cX14_messageOf 55 = .ok (.iload_n 0, 1) := by decide +kernel
theorem dX14_messageOf_56 : decode cX14_messageOf 56 = .ok (.bipush 6, 2) := by decide +kernel
theorem dX14_messageOf_58 : decode cX14_messageOf 58 = .ok (.if_icmp .ne 9, 3) := by decide +kernel
theorem dX14_messageOf_61 : decode cX14_messageOf 61 = .ok (.ldc_w 744, 3) := by decide +kernel
theorem dX14_messageOf_64 : decode cX14_messageOf 64 = .ok (.goto 30, 3) := by decide +kernel
theorem dX14_messageOf_67 : decode cX14_messageOf 67 = .ok (.iload_n 0, 1) := by decide +kernel
theorem dX14_messageOf_68 : decode cX14_messageOf 68 = .ok (.bipush 7, 2) := by decide +kernel
theorem dX14_messageOf_70 : decode cX14_messageOf 70 = .ok (.if_icmp .ne 9, 3) := by decide +kernel
theorem dX14_messageOf_73 : decode cX14_messageOf 73 = .ok (.ldc_w 745, 3) := by decide +kernel
theorem dX14_messageOf_76 : decode cX14_messageOf 76 = .ok (.goto 18, 3) := by decide +kernel
theorem dX14_messageOf_79 : decode cX14_messageOf 79 = .ok (.iload_n 0, 1) := by decide +kernel
theorem dX14_messageOf_80 : decode cX14_messageOf 80 = .ok (.bipush 8, 2) := by decide +kernel
theorem dX14_messageOf_82 : decode cX14_messageOf 82 = .ok (.if_icmp .ne 9, 3) := by decide +kernel
theorem dX14_messageOf_85 : decode cX14_messageOf 85 = .ok (.ldc_w 747, 3) := by decide +kernel
theorem dX14_messageOf_88 : decode cX14_messageOf 88 = .ok (.goto 6, 3) := by decide +kernel
theorem dX14_messageOf_91 : decode cX14_messageOf 91 = .ok (.ldc_w 749, 3) := by decide +kernel
theorem dX14_messageOf_94 : decode cX14_messageOf 94 = .ok (.areturn, 1) := by decide +kernel
def EX14_messageOf : List (Nat × Nat) := []
def qtx2547 : String := match tables_1[2547]? with | some (Jvm.Cond.stringRef _ _ t) => t | _ => ""
def qtx2543 : String := match tables_1[2543]? with | some (Jvm.Cond.stringRef _ _ t) => t | _ => ""
set_option maxHeartbeats 4000000 in
set_option maxRecDepth 20000 in
theorem uX14_messageOf (l : Launch) (dC : Nat → ClassId) (dI : Nat → Nat → Nat) (ca : Nat → ClassId) (base : Nat) (B : jF) (hB : jBok B) (hAp : jAp (dC, dI)) (G0 : jT) (H0 : Heap) (a0 : Int32) : Met l yX14_messageOf (jw yX14_messageOf cX14_messageOf 1 (some (.object "java/lang/String"))) ({ frames := 0, cells := 0, slots := 0, locals := 0 }) (va_Pc [.int a0] (fun U => U.heap = H0 ∧ jX B base G0 [] H0 ∧ jG dC dI ca base U ∧ jP (dC, dI) G0 H0 [] ∧ True)) (jQx (S := Nat × Nat) (fun v u => v = .ref u.1 ∧ u.2 < 2147483648) (fun u t => jRt (dC, dI) B base G0 EX14_messageOf H0 [] t.heap ∧ jStr base u.1 u.2 t t.heap) (jA base)) 0 0 (jA base) := by
  refine Met.ofW (cc := cX14_messageOf) (maxL := 1) (ret := (some (.object "java/lang/String"))) (by decide) rfl ?_
  intro p e s m args below meth c s₁ Bd hml hv
  obtain ⟨rfl, hH0, hX, hG, hP0, hp0⟩ := hv
  have hK := hG.1
  have hx := Bd.exec
  have hb := Bd.bytes
  have hr := Bd.returns
  have hts := atoms_spec (ws := (jw yX14_messageOf cX14_messageOf 1 (some (.object "java/lang/String")))) Bd.pre
  have htw : ∀ w ∈ jWl, w.before _ s = true := fun w h => hts w (List.mem_cons_of_mem _ h)
  have hown : s.vm.findClass RX14 = some m.cls := findClass_of_methodNamed Bd.named
  have hlocks := Bd.notSynchronized
  obtain ⟨Q, hQ⟩ : ∃ Q, Q = MQ below (jQx (S := Nat × Nat) (fun v u => v = .ref u.1 ∧ u.2 < 2147483648) (fun u t => jRt (dC, dI) B base G0 EX14_messageOf H0 [] t.heap ∧ jStr base u.1 u.2 t t.heap) (jA base)) ([.int a0] : List Value).toArray s 0 0 (jA base) := ⟨_, rfl⟩
  rw [← hQ]
  have hl := lv_entry ([.int a0]) (n := 1) (Nat.le_of_ble_eq_true rfl)
  rw [lg_entry_eq]
  generalize (lg_sl ([.int a0]) ++ List.replicate (1 - (lg_sl ([.int a0])).length) Slot.unset).toArray = ls at hl ⊢
  have hl : lv_has ls 1 [(0, .int a0)] := hl
  generalize hR : (headSpec (jw yX14_messageOf cX14_messageOf 1 (some (.object "java/lang/String"))) ({ frames := 0, cells := 0, slots := 0, locals := 0 })).room = R
  subst hH0
  have hh : jSt (dC, dI) B base G0 G0 EX14_messageOf s.heap 0 0 [] [] [] s.heap [] := jSt.start hX hP0 jMc.nil jIs.nil
  clear hX hP0
  have hk0 : (0 : Int32).toInt = 0 := by decide
  have hk1 : (1 : Int32).toInt = 1 := by decide
  have hk2 : (2 : Int32).toInt = 2 := by decide
  have hk3 : (3 : Int32).toInt = 3 := by decide
  have hk4 : (4 : Int32).toInt = 4 := by decide
  have hk5 : (5 : Int32).toInt = 5 := by decide
  have hk6 : (6 : Int32).toInt = 6 := by decide
  have hk7 : (7 : Int32).toInt = 7 := by decide
  have hk8 : (8 : Int32).toInt = 8 := by decide
  obtain ⟨str734, rstr734, hstr7340⟩ := hG.str (o := RX14) (k := 734) (tx := "unfinished") (List.mem_of_getElem? (i := 2541) (by decide +kernel))
  have hstr734 : jStr base str734 10 s s.heap := hstr7340
  obtain ⟨str736, rstr736, hstr7360⟩ := hG.str (o := RX14) (k := 736) (tx := "too much") (List.mem_of_getElem? (i := 2542) (by decide +kernel))
  have hstr736 : jStr base str736 8 s s.heap := hstr7360
  obtain ⟨str738, rstr738, hstr7380⟩ := hG.str (o := RX14) (k := 738) (tx := qtx2543) (List.mem_of_getElem? (i := 2543) (by decide +kernel))
  have h9str738 : qtx2543.length = 6 := by decide +kernel
  have hstr738 : jStr base str738 6 s s.heap := by rw [h9str738] at hstr7380; exact hstr7380
  obtain ⟨str740, rstr740, hstr7400⟩ := hG.str (o := RX14) (k := 740) (tx := "not here") (List.mem_of_getElem? (i := 2544) (by decide +kernel))
  have hstr740 : jStr base str740 8 s s.heap := hstr7400
  obtain ⟨str742, rstr742, hstr7420⟩ := hG.str (o := RX14) (k := 742) (tx := "unknown") (List.mem_of_getElem? (i := 2545) (by decide +kernel))
  have hstr742 : jStr base str742 7 s s.heap := hstr7420
  obtain ⟨str744, rstr744, hstr7440⟩ := hG.str (o := RX14) (k := 744) (tx := "taken") (List.mem_of_getElem? (i := 2546) (by decide +kernel))
  have hstr744 : jStr base str744 5 s s.heap := hstr7440
  obtain ⟨str745, rstr745, hstr7450⟩ := hG.str (o := RX14) (k := 745) (tx := qtx2547) (List.mem_of_getElem? (i := 2547) (by decide +kernel))
  have h9str745 : qtx2547.length = 10 := by decide +kernel
  have hstr745 : jStr base str745 10 s s.heap := by rw [h9str745] at hstr7450; exact hstr7450
  obtain ⟨str747, rstr747, hstr7470⟩ := hG.str (o := RX14) (k := 747) (tx := "no match") (List.mem_of_getElem? (i := 2548) (by decide +kernel))
  have hstr747 : jStr base str747 8 s s.heap := hstr7470
  obtain ⟨str749, rstr749, hstr7490⟩ := hG.str (o := RX14) (k := 749) (tx := "too large") (List.mem_of_getElem? (i := 2549) (by decide +kernel))
  have hstr749 : jStr base str749 9 s s.heap := hstr7490
  have hrg_a0 := jb_rng a0
  refine lv_iload_n hx hb dX14_messageOf_0 rfl (lv_at hl 0 rfl) ?_
  refine lv_iconst (v := 1) hx hb dX14_messageOf_1 (by decide) ?_
  refine lv_icmp_ne (tgt := 11) hx hb dX14_messageOf_2 (by decide) (fun c_1 => ?_) (fun c_1 => ?_)
  · skip
    have c_1' : a0.toInt ≠ 1 := jb_ne (rfl) ((by decide)) c_1
    refine lv_iload_n hx hb dX14_messageOf_11 rfl (lv_at hl 0 rfl) ?_
    refine lv_iconst (v := 2) hx hb dX14_messageOf_12 (by decide) ?_
    refine lv_icmp_ne (tgt := 22) hx hb dX14_messageOf_13 (by decide) (fun c_2 => ?_) (fun c_2 => ?_)
    · skip
      have c_2' : a0.toInt ≠ 2 := jb_ne (rfl) ((by decide)) c_2
      refine lv_iload_n hx hb dX14_messageOf_22 rfl (lv_at hl 0 rfl) ?_
      refine lv_iconst (v := 3) hx hb dX14_messageOf_23 (by decide) ?_
      refine lv_icmp_ne (tgt := 33) hx hb dX14_messageOf_24 (by decide) (fun c_3 => ?_) (fun c_3 => ?_)
      · skip
        have c_3' : a0.toInt ≠ 3 := jb_ne (rfl) ((by decide)) c_3
        refine lv_iload_n hx hb dX14_messageOf_33 rfl (lv_at hl 0 rfl) ?_
        refine lv_iconst (v := 4) hx hb dX14_messageOf_34 (by decide) ?_
        refine lv_icmp_ne (tgt := 44) hx hb dX14_messageOf_35 (by decide) (fun c_4 => ?_) (fun c_4 => ?_)
        · skip
          have c_4' : a0.toInt ≠ 4 := jb_ne (rfl) ((by decide)) c_4
          refine lv_iload_n hx hb dX14_messageOf_44 rfl (lv_at hl 0 rfl) ?_
          refine lv_iconst (v := 5) hx hb dX14_messageOf_45 (by decide) ?_
          refine lv_icmp_ne (tgt := 55) hx hb dX14_messageOf_46 (by decide) (fun c_5 => ?_) (fun c_5 => ?_)
          · skip
            have c_5' : a0.toInt ≠ 5 := jb_ne (rfl) ((by decide)) c_5
            refine lv_iload_n hx hb dX14_messageOf_55 rfl (lv_at hl 0 rfl) ?_
            refine lv_bipush (v := 6) hx hb dX14_messageOf_56 (by decide) ?_
            refine lv_icmp_ne (tgt := 67) hx hb dX14_messageOf_58 (by decide) (fun c_6 => ?_) (fun c_6 => ?_)
            · skip
              have c_6' : a0.toInt ≠ 6 := jb_ne (rfl) ((by decide)) c_6
              refine lv_iload_n hx hb dX14_messageOf_67 rfl (lv_at hl 0 rfl) ?_
              refine lv_bipush (v := 7) hx hb dX14_messageOf_68 (by decide) ?_
              refine lv_icmp_ne (tgt := 79) hx hb dX14_messageOf_70 (by decide) (fun c_7 => ?_) (fun c_7 => ?_)
              · skip
                have c_7' : a0.toInt ≠ 7 := jb_ne (rfl) ((by decide)) c_7
                refine lv_iload_n hx hb dX14_messageOf_79 rfl (lv_at hl 0 rfl) ?_
                refine lv_bipush (v := 8) hx hb dX14_messageOf_80 (by decide) ?_
                refine lv_icmp_ne (tgt := 91) hx hb dX14_messageOf_82 (by decide) (fun c_8 => ?_) (fun c_8 => ?_)
                · skip
                  have c_8' : a0.toInt ≠ 8 := jb_ne (rfl) ((by decide)) c_8
                  refine j_ldcSw hx hb hown rstr749 dX14_messageOf_91 ?_
                  rw [hQ]
                  exact W.aret (v := .ref str749) hx hb hr (Or.inl ⟨_, rfl⟩) (Or.inr ⟨_, rfl⟩) (fun t ht hW => ⟨⟨.ref str749, (str749, 9), rfl, ⟨rfl, by show (9 : Nat) < 2147483648; omega⟩, ⟨hh.rt (M1 := []) [] rfl ht, by rw [ht]; exact (hstr749.moved hW.alike).kept hh.1.2.1⟩⟩, by rw [ht]; try exact hh.1.1, fun q h9 hq => by rw [ht]; try exact hh.1.2.1 q h9 hq⟩) hh.1.2.2 dX14_messageOf_94
                · skip
                  have c_8' : a0.toInt = 8 := jb_ne_n (rfl) ((by decide)) c_8
                  refine j_ldcSw hx hb hown rstr747 dX14_messageOf_85 ?_
                  refine lv_goto (tgt := 94) hx hb dX14_messageOf_88 (by decide) ?_
                  rw [hQ]
                  exact W.aret (v := .ref str747) hx hb hr (Or.inl ⟨_, rfl⟩) (Or.inr ⟨_, rfl⟩) (fun t ht hW => ⟨⟨.ref str747, (str747, 8), rfl, ⟨rfl, by show (8 : Nat) < 2147483648; omega⟩, ⟨hh.rt (M1 := []) [] rfl ht, by rw [ht]; exact (hstr747.moved hW.alike).kept hh.1.2.1⟩⟩, by rw [ht]; try exact hh.1.1, fun q h9 hq => by rw [ht]; try exact hh.1.2.1 q h9 hq⟩) hh.1.2.2 dX14_messageOf_94
              · skip
                have c_7' : a0.toInt = 7 := jb_ne_n (rfl) ((by decide)) c_7
                refine j_ldcSw hx hb hown rstr745 dX14_messageOf_73 ?_
                refine lv_goto (tgt := 94) hx hb dX14_messageOf_76 (by decide) ?_
                rw [hQ]
                exact W.aret (v := .ref str745) hx hb hr (Or.inl ⟨_, rfl⟩) (Or.inr ⟨_, rfl⟩) (fun t ht hW => ⟨⟨.ref str745, (str745, 10), rfl, ⟨rfl, by show (10 : Nat) < 2147483648; omega⟩, ⟨hh.rt (M1 := []) [] rfl ht, by rw [ht]; exact (hstr745.moved hW.alike).kept hh.1.2.1⟩⟩, by rw [ht]; try exact hh.1.1, fun q h9 hq => by rw [ht]; try exact hh.1.2.1 q h9 hq⟩) hh.1.2.2 dX14_messageOf_94
            · skip
              have c_6' : a0.toInt = 6 := jb_ne_n (rfl) ((by decide)) c_6
              refine j_ldcSw hx hb hown rstr744 dX14_messageOf_61 ?_
              refine lv_goto (tgt := 94) hx hb dX14_messageOf_64 (by decide) ?_
              rw [hQ]
              exact W.aret (v := .ref str744) hx hb hr (Or.inl ⟨_, rfl⟩) (Or.inr ⟨_, rfl⟩) (fun t ht hW => ⟨⟨.ref str744, (str744, 5), rfl, ⟨rfl, by show (5 : Nat) < 2147483648; omega⟩, ⟨hh.rt (M1 := []) [] rfl ht, by rw [ht]; exact (hstr744.moved hW.alike).kept hh.1.2.1⟩⟩, by rw [ht]; try exact hh.1.1, fun q h9 hq => by rw [ht]; try exact hh.1.2.1 q h9 hq⟩) hh.1.2.2 dX14_messageOf_94
          · skip
            have c_5' : a0.toInt = 5 := jb_ne_n (rfl) ((by decide)) c_5
            refine j_ldcSw hx hb hown rstr742 dX14_messageOf_49 ?_
            refine lv_goto (tgt := 94) hx hb dX14_messageOf_52 (by decide) ?_
            rw [hQ]
            exact W.aret (v := .ref str742) hx hb hr (Or.inl ⟨_, rfl⟩) (Or.inr ⟨_, rfl⟩) (fun t ht hW => ⟨⟨.ref str742, (str742, 7), rfl, ⟨rfl, by show (7 : Nat) < 2147483648; omega⟩, ⟨hh.rt (M1 := []) [] rfl ht, by rw [ht]; exact (hstr742.moved hW.alike).kept hh.1.2.1⟩⟩, by rw [ht]; try exact hh.1.1, fun q h9 hq => by rw [ht]; try exact hh.1.2.1 q h9 hq⟩) hh.1.2.2 dX14_messageOf_94
        · skip
          have c_4' : a0.toInt = 4 := jb_ne_n (rfl) ((by decide)) c_4
          refine j_ldcSw hx hb hown rstr740 dX14_messageOf_38 ?_
          refine lv_goto (tgt := 94) hx hb dX14_messageOf_41 (by decide) ?_
          rw [hQ]
          exact W.aret (v := .ref str740) hx hb hr (Or.inl ⟨_, rfl⟩) (Or.inr ⟨_, rfl⟩) (fun t ht hW => ⟨⟨.ref str740, (str740, 8), rfl, ⟨rfl, by show (8 : Nat) < 2147483648; omega⟩, ⟨hh.rt (M1 := []) [] rfl ht, by rw [ht]; exact (hstr740.moved hW.alike).kept hh.1.2.1⟩⟩, by rw [ht]; try exact hh.1.1, fun q h9 hq => by rw [ht]; try exact hh.1.2.1 q h9 hq⟩) hh.1.2.2 dX14_messageOf_94
      · skip
        have c_3' : a0.toInt = 3 := jb_ne_n (rfl) ((by decide)) c_3
        refine j_ldcSw hx hb hown rstr738 dX14_messageOf_27 ?_
        refine lv_goto (tgt := 94) hx hb dX14_messageOf_30 (by decide) ?_
        rw [hQ]
        exact W.aret (v := .ref str738) hx hb hr (Or.inl ⟨_, rfl⟩) (Or.inr ⟨_, rfl⟩) (fun t ht hW => ⟨⟨.ref str738, (str738, 6), rfl, ⟨rfl, by show (6 : Nat) < 2147483648; omega⟩, ⟨hh.rt (M1 := []) [] rfl ht, by rw [ht]; exact (hstr738.moved hW.alike).kept hh.1.2.1⟩⟩, by rw [ht]; try exact hh.1.1, fun q h9 hq => by rw [ht]; try exact hh.1.2.1 q h9 hq⟩) hh.1.2.2 dX14_messageOf_94
    · skip
      have c_2' : a0.toInt = 2 := jb_ne_n (rfl) ((by decide)) c_2
      refine j_ldcSw hx hb hown rstr736 dX14_messageOf_16 ?_
      refine lv_goto (tgt := 94) hx hb dX14_messageOf_19 (by decide) ?_
      rw [hQ]
      exact W.aret (v := .ref str736) hx hb hr (Or.inl ⟨_, rfl⟩) (Or.inr ⟨_, rfl⟩) (fun t ht hW => ⟨⟨.ref str736, (str736, 8), rfl, ⟨rfl, by show (8 : Nat) < 2147483648; omega⟩, ⟨hh.rt (M1 := []) [] rfl ht, by rw [ht]; exact (hstr736.moved hW.alike).kept hh.1.2.1⟩⟩, by rw [ht]; try exact hh.1.1, fun q h9 hq => by rw [ht]; try exact hh.1.2.1 q h9 hq⟩) hh.1.2.2 dX14_messageOf_94
  · skip
    have c_1' : a0.toInt = 1 := jb_ne_n (rfl) ((by decide)) c_1
    refine j_ldcSw hx hb hown rstr734 dX14_messageOf_5 ?_
    refine lv_goto (tgt := 94) hx hb dX14_messageOf_8 (by decide) ?_
    rw [hQ]
    exact W.aret (v := .ref str734) hx hb hr (Or.inl ⟨_, rfl⟩) (Or.inr ⟨_, rfl⟩) (fun t ht hW => ⟨⟨.ref str734, (str734, 10), rfl, ⟨rfl, by show (10 : Nat) < 2147483648; omega⟩, ⟨hh.rt (M1 := []) [] rfl ht, by rw [ht]; exact (hstr734.moved hW.alike).kept hh.1.2.1⟩⟩, by rw [ht]; try exact hh.1.1, fun q h9 hq => by rw [ht]; try exact hh.1.2.1 q h9 hq⟩) hh.1.2.2 dX14_messageOf_94
end
