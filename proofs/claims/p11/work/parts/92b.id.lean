def EX14_isStringK : List (Nat × Nat) := []
def EX14_isWholeK : List (Nat × Nat) := []
def EX14_isIdK : List (Nat × Nat) := []
set_option maxHeartbeats 4000000 in
set_option maxRecDepth 20000 in
theorem uX14_isStringK (l : Launch) (dC : Nat → ClassId) (dI : Nat → Nat → Nat) (ca : Nat → ClassId) (base : Nat) (B : jF) (hB : jBok B) (hAp : jAp (dC, dI)) (hB16 : ∀ n G a H, B 16 n G a H ↔ jOb (dC, dI) 16 74 (F16 n G) a H) (hB117 : ∀ n G a H, B 117 n G a H ↔ jAr (dC, dI) (ca 1) (fun j z => True) n a H) (G0 : jT) (H0 : Heap) (r0 : Nat) (a1 : Int32) (zm : Nat) (fs : Nat → Int32) : Met l yX14_isString (jw yX14_isString cX14_isString 2 (some .boolean)) ({ frames := 0, cells := 0, slots := 0, locals := 0 }) (va_Pc [.ref r0, .int a1] (fun U => U.heap = H0 ∧ jX B base G0 [] H0 ∧ jG dC dI ca base U ∧ G0 r0 = some (16, 0) ∧ G0 zm = some (117, 3100) ∧ jP (dC, dI) G0 H0 [(r0, 16, 17, .ref zm)] ∧ jMc (dC, dI) G0 H0 [(zm, 117, 3100, ca 1, fs)] ∧ a1.toInt ≤ 3099)) (va_Qi (S := Unit) (fun r u => (r = 0 ∨ r = 1) ∧ (0 ≤ r.toInt ∧ r.toInt ≤ 1 ∧ (r.toInt = 1 → 0 ≤ a1.toInt ∧ jSo fs a1.toInt = 4))) (fun u t => jRt (dC, dI) B base G0 EX14_isStringK H0 [] t.heap) (jA base)) 0 0 (jA base) := by
  refine Met.ofW (cc := cX14_isString) (maxL := 2) (ret := (some .boolean)) (by decide) rfl ?_
  intro p e s m args below meth c s₁ Bd hml hv
  obtain ⟨rfl, hH0, hX, hG, hg_r0, hg_zm, hP0, hM0, hp0⟩ := hv
  have hK := hG.1
  have hx := Bd.exec
  have hb := Bd.bytes
  have hr := Bd.returns
  have hts := atoms_spec (ws := (jw yX14_isString cX14_isString 2 (some .boolean))) Bd.pre
  have htw : ∀ w ∈ jWl, w.before _ s = true := fun w h => hts w (List.mem_cons_of_mem _ h)
  have hown : s.vm.findClass RX14 = some m.cls := findClass_of_methodNamed Bd.named
  have hlocks := Bd.notSynchronized
  obtain ⟨Q, hQ⟩ : ∃ Q, Q = MQ below (va_Qi (S := Unit) (fun r u => (r = 0 ∨ r = 1) ∧ (0 ≤ r.toInt ∧ r.toInt ≤ 1 ∧ (r.toInt = 1 → 0 ≤ a1.toInt ∧ jSo fs a1.toInt = 4))) (fun u t => jRt (dC, dI) B base G0 EX14_isStringK H0 [] t.heap) (jA base)) ([.ref r0, .int a1] : List Value).toArray s 0 0 (jA base) := ⟨_, rfl⟩
  rw [← hQ]
  have hl := lv_entry ([.ref r0, .int a1]) (n := 2) (Nat.le_of_ble_eq_true rfl)
  rw [lg_entry_eq]
  generalize (lg_sl ([.ref r0, .int a1]) ++ List.replicate (2 - (lg_sl ([.ref r0, .int a1])).length) Slot.unset).toArray = ls at hl ⊢
  have hl : lv_has ls 2 [(0, .ref r0), (1, .int a1)] := hl
  generalize hR : (headSpec (jw yX14_isString cX14_isString 2 (some .boolean)) ({ frames := 0, cells := 0, slots := 0, locals := 0 })).room = R
  subst hH0
  have hh : jSt (dC, dI) B base G0 G0 EX14_isStringK s.heap 0 0 [(r0, 16, 17, .ref zm)] [(zm, 117, 3100, ca 1, fs)] [] s.heap [] := jSt.start hX hP0 hM0 jIs.nil
  clear hX hP0
  have hk0 : (0 : Int32).toInt = 0 := by decide
  have hk1 : (1 : Int32).toInt = 1 := by decide
  have hk4 : (4 : Int32).toInt = 4 := by decide
  have hly_16_17 := htw (u_lay RX14 TX14 17) (jWc_wsX140 _ (u_in_lay (by decide)))
  have hlk_37 := (htw (.fieldLink RX14 37 "ProofServerModel" "sort" "[I") (jWr_11 _ (List.mem_of_getElem? (i := 4) rfl)))
  have hrg_a1 := jb_rng a1
  refine lv_iload_n hx hb dX14_isString_0 rfl (lv_at hl 1 rfl) ?_
  refine lv_if_lt (tgt := 18) hx hb dX14_isString_1 (by decide) (fun c_1 => ?_) (fun c_1 => ?_)
  · skip
    have c_1' : a1.toInt < 0 := jb_lt (rfl) ((by decide)) c_1
    refine lv_iconst (v := 0) hx hb dX14_isString_18 (by decide) ?_
    rw [hQ]
    exact W.zret (v := 0) hx hb hr (jb_nz (Or.inl rfl)) (fun t ht hW => ⟨⟨0, (), rfl, ⟨(Or.inl rfl), by first | omega | (refine ⟨?_, ?_, ?_⟩ <;> (first | omega | rfl | assumption | decide | exact Or.inl rfl | exact Or.inr rfl | (simp only; omega)))⟩, hh.rt (M1 := []) [] rfl ht⟩, by rw [ht]; try exact hh.1.1, fun q h9 hq => by rw [ht]; try exact hh.1.2.1 q h9 hq⟩) hh.1.2.2 dX14_isString_19
  · skip
    have c_1' : a1.toInt ≥ 0 := jb_lt_n (rfl) ((by decide)) c_1
    refine lv_aload_n hx hb dX14_isString_4 rfl (lv_at hl 0 rfl) ?_
    refine j7_read hx hb hown hK (C := RX14) (T := TX14) (N := 74) rfl hly_16_17 hlk_37 (hh.at 0 rfl) dX14_isString_5 ?_
    refine lv_iload_n hx hb dX14_isString_8 rfl (lv_at hl 1 rfl) ?_
    refine j7_ialdM hx hb hK hh hB117 1 rfl (by decide) hg_zm (x := a1.toInt) (rfl) (by omega) (j := 0) rfl dX14_isString_9 (fun z_2 ez_2 (hz_2 : True) => ?_)
    have hqz_2 : z_2.toInt = jSo fs (a1.toInt) := by unfold jSo; rw [ez_2]
    refine lv_iconst (v := 4) hx hb dX14_isString_10 (by decide) ?_
    refine lv_icmp_ne (tgt := 18) hx hb dX14_isString_11 (by decide) (fun c_3 => ?_) (fun c_3 => ?_)
    · skip
      have c_3' : z_2.toInt ≠ 4 := jb_ne (rfl) ((by decide)) c_3
      refine lv_iconst (v := 0) hx hb dX14_isString_18 (by decide) ?_
      rw [hQ]
      exact W.zret (v := 0) hx hb hr (jb_nz (Or.inl rfl)) (fun t ht hW => ⟨⟨0, (), rfl, ⟨(Or.inl rfl), by first | omega | (refine ⟨?_, ?_, ?_⟩ <;> (first | omega | rfl | assumption | decide | exact Or.inl rfl | exact Or.inr rfl | (simp only; omega)))⟩, hh.rt (M1 := []) [] rfl ht⟩, by rw [ht]; try exact hh.1.1, fun q h9 hq => by rw [ht]; try exact hh.1.2.1 q h9 hq⟩) hh.1.2.2 dX14_isString_19
    · skip
      have c_3' : z_2.toInt = 4 := jb_ne_n (rfl) ((by decide)) c_3
      refine lv_iconst (v := 1) hx hb dX14_isString_14 (by decide) ?_
      refine lv_goto (tgt := 19) hx hb dX14_isString_15 (by decide) ?_
      rw [hQ]
      exact W.zret (v := 1) hx hb hr (jb_nz (Or.inr rfl)) (fun t ht hW => ⟨⟨1, (), rfl, ⟨(Or.inr rfl), by first | omega | (refine ⟨?_, ?_, ?_⟩ <;> (first | omega | rfl | assumption | decide | exact Or.inl rfl | exact Or.inr rfl | (simp only; omega)))⟩, hh.rt (M1 := []) [] rfl ht⟩, by rw [ht]; try exact hh.1.1, fun q h9 hq => by rw [ht]; try exact hh.1.2.1 q h9 hq⟩) hh.1.2.2 dX14_isString_19
set_option maxHeartbeats 4000000 in
set_option maxRecDepth 20000 in
theorem uX14_isWholeK (l : Launch) (dC : Nat → ClassId) (dI : Nat → Nat → Nat) (ca : Nat → ClassId) (base : Nat) (B : jF) (hB : jBok B) (hAp : jAp (dC, dI)) (hB16 : ∀ n G a H, B 16 n G a H ↔ jOb (dC, dI) 16 74 (F16 n G) a H) (hB117 : ∀ n G a H, B 117 n G a H ↔ jAr (dC, dI) (ca 1) (fun j z => True) n a H) (hB124 : ∀ n G a H, B 124 n G a H ↔ jAr (dC, dI) (ca 3) (fun j z => (z = 0 ∨ z = 1)) n a H) (G0 : jT) (H0 : Heap) (r0 : Nat) (a1 : Int32) (zm : Nat) (fs : Nat → Int32) : Met l yX14_isWhole (jw yX14_isWhole cX14_isWhole 2 (some .boolean)) ({ frames := 0, cells := 0, slots := 0, locals := 0 }) (va_Pc [.ref r0, .int a1] (fun U => U.heap = H0 ∧ jX B base G0 [] H0 ∧ jG dC dI ca base U ∧ G0 r0 = some (16, 0) ∧ G0 zm = some (117, 3100) ∧ jP (dC, dI) G0 H0 [(r0, 16, 17, .ref zm)] ∧ jMc (dC, dI) G0 H0 [(zm, 117, 3100, ca 1, fs)] ∧ a1.toInt ≤ 3099)) (va_Qi (S := Unit) (fun r u => (r = 0 ∨ r = 1) ∧ (0 ≤ r.toInt ∧ r.toInt ≤ 1 ∧ (r.toInt = 1 → 0 ≤ a1.toInt ∧ jSo fs a1.toInt = 3))) (fun u t => jRt (dC, dI) B base G0 EX14_isWholeK H0 [] t.heap) (jA base)) 0 0 (jA base) := by
  refine Met.ofW (cc := cX14_isWhole) (maxL := 2) (ret := (some .boolean)) (by decide) rfl ?_
  intro p e s m args below meth c s₁ Bd hml hv
  obtain ⟨rfl, hH0, hX, hG, hg_r0, hg_zm, hP0, hM0, hp0⟩ := hv
  have hK := hG.1
  have hx := Bd.exec
  have hb := Bd.bytes
  have hr := Bd.returns
  have hts := atoms_spec (ws := (jw yX14_isWhole cX14_isWhole 2 (some .boolean))) Bd.pre
  have htw : ∀ w ∈ jWl, w.before _ s = true := fun w h => hts w (List.mem_cons_of_mem _ h)
  have hown : s.vm.findClass RX14 = some m.cls := findClass_of_methodNamed Bd.named
  have hlocks := Bd.notSynchronized
  obtain ⟨Q, hQ⟩ : ∃ Q, Q = MQ below (va_Qi (S := Unit) (fun r u => (r = 0 ∨ r = 1) ∧ (0 ≤ r.toInt ∧ r.toInt ≤ 1 ∧ (r.toInt = 1 → 0 ≤ a1.toInt ∧ jSo fs a1.toInt = 3))) (fun u t => jRt (dC, dI) B base G0 EX14_isWholeK H0 [] t.heap) (jA base)) ([.ref r0, .int a1] : List Value).toArray s 0 0 (jA base) := ⟨_, rfl⟩
  rw [← hQ]
  have hl := lv_entry ([.ref r0, .int a1]) (n := 2) (Nat.le_of_ble_eq_true rfl)
  rw [lg_entry_eq]
  generalize (lg_sl ([.ref r0, .int a1]) ++ List.replicate (2 - (lg_sl ([.ref r0, .int a1])).length) Slot.unset).toArray = ls at hl ⊢
  have hl : lv_has ls 2 [(0, .ref r0), (1, .int a1)] := hl
  generalize hR : (headSpec (jw yX14_isWhole cX14_isWhole 2 (some .boolean)) ({ frames := 0, cells := 0, slots := 0, locals := 0 })).room = R
  subst hH0
  have hh : jSt (dC, dI) B base G0 G0 EX14_isWholeK s.heap 0 0 [(r0, 16, 17, .ref zm)] [(zm, 117, 3100, ca 1, fs)] [] s.heap [] := jSt.start hX hP0 hM0 jIs.nil
  clear hX hP0
  have hk0 : (0 : Int32).toInt = 0 := by decide
  have hk1 : (1 : Int32).toInt = 1 := by decide
  have hk3 : (3 : Int32).toInt = 3 := by decide
  have hly_16_17 := htw (u_lay RX14 TX14 17) (jWc_wsX140 _ (u_in_lay (by decide)))
  have hly_16_24 := htw (u_lay RX14 TX14 24) (jWc_wsX140 _ (u_in_lay (by decide)))
  have hlk_37 := (htw (.fieldLink RX14 37 "ProofServerModel" "sort" "[I") (jWr_11 _ (List.mem_of_getElem? (i := 4) rfl)))
  have hlk_58 := (htw (.fieldLink RX14 58 "ProofServerModel" "isInt" "[Z") (jWr_11 _ (List.mem_of_getElem? (i := 12) rfl)))
  have hrg_a1 := jb_rng a1
  refine lv_iload_n hx hb dX14_isWhole_0 rfl (lv_at hl 1 rfl) ?_
  refine lv_if_lt (tgt := 27) hx hb dX14_isWhole_1 (by decide) (fun c_1 => ?_) (fun c_1 => ?_)
  · skip
    have c_1' : a1.toInt < 0 := jb_lt (rfl) ((by decide)) c_1
    refine lv_iconst (v := 0) hx hb dX14_isWhole_27 (by decide) ?_
    rw [hQ]
    exact W.zret (v := 0) hx hb hr (jb_nz (Or.inl rfl)) (fun t ht hW => ⟨⟨0, (), rfl, ⟨(Or.inl rfl), by first | omega | (refine ⟨?_, ?_, ?_⟩ <;> (first | omega | rfl | assumption | decide | exact Or.inl rfl | exact Or.inr rfl | (simp only; omega)))⟩, hh.rt (M1 := []) [] rfl ht⟩, by rw [ht]; try exact hh.1.1, fun q h9 hq => by rw [ht]; try exact hh.1.2.1 q h9 hq⟩) hh.1.2.2 dX14_isWhole_28
  · skip
    have c_1' : a1.toInt ≥ 0 := jb_lt_n (rfl) ((by decide)) c_1
    refine lv_aload_n hx hb dX14_isWhole_4 rfl (lv_at hl 0 rfl) ?_
    refine j7_read hx hb hown hK (C := RX14) (T := TX14) (N := 74) rfl hly_16_17 hlk_37 (hh.at 0 rfl) dX14_isWhole_5 ?_
    refine lv_iload_n hx hb dX14_isWhole_8 rfl (lv_at hl 1 rfl) ?_
    refine j7_ialdM hx hb hK hh hB117 1 rfl (by decide) hg_zm (x := a1.toInt) (rfl) (by omega) (j := 0) rfl dX14_isWhole_9 (fun z_2 ez_2 (hz_2 : True) => ?_)
    have hqz_2 : z_2.toInt = jSo fs (a1.toInt) := by unfold jSo; rw [ez_2]
    refine lv_iconst (v := 3) hx hb dX14_isWhole_10 (by decide) ?_
    refine lv_icmp_ne (tgt := 27) hx hb dX14_isWhole_11 (by decide) (fun c_3 => ?_) (fun c_3 => ?_)
    · skip
      have c_3' : z_2.toInt ≠ 3 := jb_ne (rfl) ((by decide)) c_3
      refine lv_iconst (v := 0) hx hb dX14_isWhole_27 (by decide) ?_
      rw [hQ]
      exact W.zret (v := 0) hx hb hr (jb_nz (Or.inl rfl)) (fun t ht hW => ⟨⟨0, (), rfl, ⟨(Or.inl rfl), by first | omega | (refine ⟨?_, ?_, ?_⟩ <;> (first | omega | rfl | assumption | decide | exact Or.inl rfl | exact Or.inr rfl | (simp only; omega)))⟩, hh.rt (M1 := []) [] rfl ht⟩, by rw [ht]; try exact hh.1.1, fun q h9 hq => by rw [ht]; try exact hh.1.2.1 q h9 hq⟩) hh.1.2.2 dX14_isWhole_28
    · skip
      have c_3' : z_2.toInt = 3 := jb_ne_n (rfl) ((by decide)) c_3
      refine lv_aload_n hx hb dX14_isWhole_14 rfl (lv_at hl 0 rfl) ?_
      obtain ⟨v_4, hv_4, hh_5⟩ := hh.pin (C := RX14) (T := TX14) (N := 74) hB16 rfl (by decide) hg_r0 (i := 24) (by decide) rfl
      clear hh
      obtain ⟨isInt_6, rfl, hg_isInt_6⟩ := hv_4
      refine j7_read hx hb hown hK (C := RX14) (T := TX14) (N := 74) rfl hly_16_24 hlk_58 (hh_5.at 0 rfl) dX14_isWhole_15 ?_
      refine lv_iload_n hx hb dX14_isWhole_18 rfl (lv_at hl 1 rfl) ?_
      refine j7_zald hx hb hK hh_5 hB124 3 rfl (by decide) hg_isInt_6 (x := a1.toInt) (rfl) (by omega) dX14_isWhole_19 (fun z_7 (hz_7 : (z_7 = 0 ∨ z_7 = 1)) => ?_)
      have hz_7' := jb_01 hz_7
      refine lv_if_eq (tgt := 27) hx hb dX14_isWhole_20 (by decide) (fun c_8 => ?_) (fun c_8 => ?_)
      · skip
        have c_8' : z_7.toInt = 0 := jb_eq (rfl) ((by decide)) c_8
        refine lv_iconst (v := 0) hx hb dX14_isWhole_27 (by decide) ?_
        rw [hQ]
        exact W.zret (v := 0) hx hb hr (jb_nz (Or.inl rfl)) (fun t ht hW => ⟨⟨0, (), rfl, ⟨(Or.inl rfl), by first | omega | (refine ⟨?_, ?_, ?_⟩ <;> (first | omega | rfl | assumption | decide | exact Or.inl rfl | exact Or.inr rfl | (simp only; omega)))⟩, hh_5.rt (M1 := []) [] rfl ht⟩, by rw [ht]; try exact hh_5.1.1, fun q h9 hq => by rw [ht]; try exact hh_5.1.2.1 q h9 hq⟩) hh_5.1.2.2 dX14_isWhole_28
      · skip
        have c_8' : z_7.toInt ≠ 0 := jb_eq_n (rfl) ((by decide)) c_8
        refine lv_iconst (v := 1) hx hb dX14_isWhole_23 (by decide) ?_
        refine lv_goto (tgt := 28) hx hb dX14_isWhole_24 (by decide) ?_
        rw [hQ]
        exact W.zret (v := 1) hx hb hr (jb_nz (Or.inr rfl)) (fun t ht hW => ⟨⟨1, (), rfl, ⟨(Or.inr rfl), by first | omega | (refine ⟨?_, ?_, ?_⟩ <;> (first | omega | rfl | assumption | decide | exact Or.inl rfl | exact Or.inr rfl | (simp only; omega)))⟩, hh_5.rt (M1 := []) [] rfl ht⟩, by rw [ht]; try exact hh_5.1.1, fun q h9 hq => by rw [ht]; try exact hh_5.1.2.1 q h9 hq⟩) hh_5.1.2.2 dX14_isWhole_28
set_option maxHeartbeats 4000000 in
set_option maxRecDepth 20000 in
theorem uX14_isIdK (l : Launch) (dC : Nat → ClassId) (dI : Nat → Nat → Nat) (ca : Nat → ClassId) (base : Nat) (B : jF) (hB : jBok B) (hAp : jAp (dC, dI)) (hB16 : ∀ n G a H, B 16 n G a H ↔ jOb (dC, dI) 16 74 (F16 n G) a H) (hB117 : ∀ n G a H, B 117 n G a H ↔ jAr (dC, dI) (ca 1) (fun j z => True) n a H) (hB122 : ∀ n G a H, B 122 n G a H ↔ jAr (dC, dI) (ca 1) (fun j z => 0 ≤ z.toInt ∧ z.toInt ≤ 3100) n a H) (hB123 : ∀ n G a H, B 123 n G a H ↔ jAr (dC, dI) (ca 1) (fun j z => 0 ≤ z.toInt ∧ z.toInt ≤ 3100) n a H) (hB124 : ∀ n G a H, B 124 n G a H ↔ jAr (dC, dI) (ca 3) (fun j z => (z = 0 ∨ z = 1)) n a H) (G0 : jT) (H0 : Heap) (r0 : Nat) (a1 : Int32) (zm : Nat) (xb : Nat) (xe : Nat) (fs : Nat → Int32) (fb : Nat → Int32) (fe : Nat → Int32) : Met l yX14_isId (jw yX14_isId cX14_isId 2 (some .boolean)) ({ frames := 1, cells := 0, slots := 0, locals := 21 }) (va_Pc [.ref r0, .int a1] (fun U => U.heap = H0 ∧ jX B base G0 [] H0 ∧ jG dC dI ca base U ∧ G0 r0 = some (16, 0) ∧ G0 zm = some (117, 3100) ∧ G0 xb = some (122, 3100) ∧ G0 xe = some (123, 3100) ∧ jP (dC, dI) G0 H0 [(r0, 16, 17, .ref zm), (r0, 16, 22, .ref xb), (r0, 16, 23, .ref xe)] ∧ jMc (dC, dI) G0 H0 [(zm, 117, 3100, ca 1, fs), (xb, 122, 3100, ca 1, fb), (xe, 123, 3100, ca 1, fe)] ∧ a1.toInt ≤ 3099)) (va_Qi (S := Unit) (fun r u => (r = 0 ∨ r = 1) ∧ (0 ≤ r.toInt ∧ r.toInt ≤ 1 ∧ (r.toInt = 1 → 0 ≤ a1.toInt ∧ (jSo fs a1.toInt = 4 → jSo fe a1.toInt - jSo fb a1.toInt ≤ 20)))) (fun u t => jRt (dC, dI) B base G0 EX14_isIdK H0 [] t.heap) (jA base)) 0 0 (jA base) := by
  refine Met.ofW (cc := cX14_isId) (maxL := 2) (ret := (some .boolean)) (by decide) rfl ?_
  intro p e s m args below meth c s₁ Bd hml hv
  obtain ⟨rfl, hH0, hX, hG, hg_r0, hg_zm, hg_xb, hg_xe, hP0, hM0, hp0⟩ := hv
  have hK := hG.1
  have hx := Bd.exec
  have hb := Bd.bytes
  have hr := Bd.returns
  have hts := atoms_spec (ws := (jw yX14_isId cX14_isId 2 (some .boolean))) Bd.pre
  have htw : ∀ w ∈ jWl, w.before _ s = true := fun w h => hts w (List.mem_cons_of_mem _ h)
  have hown : s.vm.findClass RX14 = some m.cls := findClass_of_methodNamed Bd.named
  have hlocks := Bd.notSynchronized
  obtain ⟨Q, hQ⟩ : ∃ Q, Q = MQ below (va_Qi (S := Unit) (fun r u => (r = 0 ∨ r = 1) ∧ (0 ≤ r.toInt ∧ r.toInt ≤ 1 ∧ (r.toInt = 1 → 0 ≤ a1.toInt ∧ (jSo fs a1.toInt = 4 → jSo fe a1.toInt - jSo fb a1.toInt ≤ 20)))) (fun u t => jRt (dC, dI) B base G0 EX14_isIdK H0 [] t.heap) (jA base)) ([.ref r0, .int a1] : List Value).toArray s 0 0 (jA base) := ⟨_, rfl⟩
  rw [← hQ]
  have hl := lv_entry ([.ref r0, .int a1]) (n := 2) (Nat.le_of_ble_eq_true rfl)
  rw [lg_entry_eq]
  generalize (lg_sl ([.ref r0, .int a1]) ++ List.replicate (2 - (lg_sl ([.ref r0, .int a1])).length) Slot.unset).toArray = ls at hl ⊢
  have hl : lv_has ls 2 [(0, .ref r0), (1, .int a1)] := hl
  generalize hR : (headSpec (jw yX14_isId cX14_isId 2 (some .boolean)) ({ frames := 1, cells := 0, slots := 0, locals := 21 })).room = R
  subst hH0
  have hh : jSt (dC, dI) B base G0 G0 EX14_isIdK s.heap 0 0 [(r0, 16, 17, .ref zm), (r0, 16, 22, .ref xb), (r0, 16, 23, .ref xe)] [(zm, 117, 3100, ca 1, fs), (xb, 122, 3100, ca 1, fb), (xe, 123, 3100, ca 1, fe)] [] s.heap [] := jSt.start hX hP0 hM0 jIs.nil
  clear hX hP0
  have hk0 : (0 : Int32).toInt = 0 := by decide
  have hk1 : (1 : Int32).toInt = 1 := by decide
  have hk20 : (20 : Int32).toInt = 20 := by decide
  have hly_16_22 := htw (u_lay RX14 TX14 22) (jWc_wsX140 _ (u_in_lay (by decide)))
  have hly_16_23 := htw (u_lay RX14 TX14 23) (jWc_wsX140 _ (u_in_lay (by decide)))
  have hlk_55 := (htw (.fieldLink RX14 55 "ProofServerModel" "to" "[I") (jWr_11 _ (List.mem_of_getElem? (i := 10) rfl)))
  have hlk_52 := (htw (.fieldLink RX14 52 "ProofServerModel" "from" "[I") (jWr_11 _ (List.mem_of_getElem? (i := 9) rfl)))
  have hrg_a1 := jb_rng a1
  refine lv_aload_n hx hb dX14_isId_0 rfl (lv_at hl 0 rfl) ?_
  refine lv_iload_n hx hb dX14_isId_1 rfl (lv_at hl 1 rfl) ?_
  refine va_calli (A0 := jA base) (H0 := s.heap) (va_runV (As := [.int a1]) (rest := []) ⟨hx, hb, hml, hown, hts⟩ (uX14_isWholeK l dC dI ca base B hB hAp hB16 hB117 hB124 G0 s.heap r0 a1 zm fs) (cwV 1 hts (jgV (jWr_56 _ (List.mem_of_getElem? (i := 11) rfl)) (jWr_56 _ (List.mem_of_getElem? (i := 12) rfl)) (jWr_56 _ (List.mem_of_getElem? (i := 13) rfl)) (jWr_1 _ (List.mem_of_getElem? (i := 5) rfl)) (jWr_56 _ (List.mem_of_getElem? (i := 14) rfl))) rfl rfl rfl (by decide +kernel) ⟨by rw [← hR]; exact Nat.le_of_ble_eq_true rfl, by rw [← hR]; exact Nat.le_of_ble_eq_true rfl⟩) ⟨fun a U g mk q => by obtain ⟨q0, q1, q2, qK, q10, q11, q12, q13, q14⟩ := q; exact ⟨q0, q1, q2, jG.calling g mk a qK, q10, q11, q12, q13, q14⟩, hh.recv (C := RX14) (T := TX14) (N := 74) hB16 rfl (by decide) hg_r0 hK, fun U hU hW => ⟨rfl, hU, hh.2.1, hG.step hW hU hh.1, hg_r0, hg_zm, (hh.2.2.1.sub (L1 := [(r0, 16, 17, .ref zm)]) [0] rfl), (hh.2.2.2.2.2.2.2.1.sub (L1 := [(zm, 117, 3100, ca 1, fs)]) [0] rfl), by first | omega | rfl | assumption | decide | exact Or.inl rfl | exact Or.inr rfl | (simp only; omega)⟩⟩ rfl rfl hl.1 rfl (lv_room (Nat.le_of_ble_eq_true rfl)) dX14_isId_2 ⟨Nat.zero_le _, Nat.zero_le _⟩) hh.1 (fun q _ h => h) (fun q h => h) (fun r_2 u_1 t_1 H_1 locs_1 ht_1 hvm_1 hr_2 hb_1 hz_1 hk_1 hS_1 => ?_)
  rw [ht_1] at hb_1
  obtain ⟨hb_11, hb_12, hb_13, hb_14, hb_15⟩ := hb_1
  have hh_1 : jSt (dC, dI) B base G0 G0 EX14_isIdK s.heap 0 0 [(r0, 16, 17, .ref zm), (r0, 16, 22, .ref xb), (r0, 16, 23, .ref xe)] [(zm, 117, 3100, ca 1, fs), (xb, 122, 3100, ca 1, fb), (xe, 123, 3100, ca 1, fe)] [] H_1 locs_1 := ((hh.call hb_11 hb_12 hb_13 hb_14 hS_1 rfl (L1 := [(r0, 16, 17, .ref zm), (r0, 16, 22, .ref xb), (r0, 16, 23, .ref xe)]) [0, 1, 2] rfl rfl (M1 := [(zm, 117, 3100, ca 1, fs), (xb, 122, 3100, ca 1, fb), (xe, 123, 3100, ca 1, fe)]) [0, 1, 2] rfl rfl (I1 := []) [] rfl rfl).more hb_15)
  clear hh ht_1 hvm_1 hz_1 hk_1 hS_1 hb_11 hb_12 hb_13 hb_14 hb_15
  obtain ⟨hr_2b, hr_2p⟩ := hr_2
  obtain ⟨hr_2p_0, hr_2p_1, hr_2p_2⟩ := hr_2p
  have hr_2' := jb_01 hr_2b
  refine lv_if_ne (tgt := 34) hx hb dX14_isId_5 (by decide) (fun c_3 => ?_) (fun c_3 => ?_)
  · skip
    have c_3' : r_2.toInt ≠ 0 := jb_ne (rfl) ((by decide)) c_3
    refine lv_iconst (v := 1) hx hb dX14_isId_34 (by decide) ?_
    refine lv_goto (tgt := 39) hx hb dX14_isId_35 (by decide) ?_
    rw [hQ]
    exact W.zret (v := 1) hx hb hr (jb_nz (Or.inr rfl)) (fun t ht hW => ⟨⟨1, (), rfl, ⟨(Or.inr rfl), by first | omega | (refine ⟨?_, ?_, ?_⟩ <;> (first | omega | rfl | assumption | decide | exact Or.inl rfl | exact Or.inr rfl | (simp only; omega)))⟩, hh_1.rt (M1 := []) [] rfl ht⟩, by rw [ht]; try exact hh_1.1.1, fun q h9 hq => by rw [ht]; try exact hh_1.1.2.1 q h9 hq⟩) hh_1.1.2.2 dX14_isId_39
  · skip
    have c_3' : r_2.toInt = 0 := jb_ne_n (rfl) ((by decide)) c_3
    refine lv_aload_n hx hb dX14_isId_8 rfl (lv_at hl 0 rfl) ?_
    refine lv_iload_n hx hb dX14_isId_9 rfl (lv_at hl 1 rfl) ?_
    refine va_calli (A0 := jA base) (H0 := s.heap) (va_runV (As := [.int a1]) (rest := []) ⟨hx, hb, hml, hown, hts⟩ (uX14_isStringK l dC dI ca base B hB hAp hB16 hB117 G0 H_1 r0 a1 zm fs) (cwV 1 hts (jgV (jWr_56 _ (List.mem_of_getElem? (i := 3) rfl)) (jWr_56 _ (List.mem_of_getElem? (i := 4) rfl)) (jWr_56 _ (List.mem_of_getElem? (i := 5) rfl)) (jWr_1 _ (List.mem_of_getElem? (i := 5) rfl)) (jWr_56 _ (List.mem_of_getElem? (i := 6) rfl))) rfl rfl rfl (by decide +kernel) ⟨by rw [← hR]; exact Nat.le_of_ble_eq_true rfl, by rw [← hR]; exact Nat.le_of_ble_eq_true rfl⟩) ⟨fun a U g mk q => by obtain ⟨q0, q1, q2, qK, q10, q11, q12, q13, q14⟩ := q; exact ⟨q0, q1, q2, jG.calling g mk a qK, q10, q11, q12, q13, q14⟩, hh_1.recv (C := RX14) (T := TX14) (N := 74) hB16 rfl (by decide) hg_r0 hK, fun U hU hW => ⟨rfl, hU, hh_1.2.1, hG.step hW hU hh_1.1, hg_r0, hg_zm, (hh_1.2.2.1.sub (L1 := [(r0, 16, 17, .ref zm)]) [0] rfl), (hh_1.2.2.2.2.2.2.2.1.sub (L1 := [(zm, 117, 3100, ca 1, fs)]) [0] rfl), by first | omega | rfl | assumption | decide | exact Or.inl rfl | exact Or.inr rfl | (simp only; omega)⟩⟩ rfl rfl hl.1 rfl (lv_room (Nat.le_of_ble_eq_true rfl)) dX14_isId_10 ⟨Nat.zero_le _, Nat.zero_le _⟩) hh_1.1 (fun q _ h => h) (fun q h => h) (fun r_5 u_4 t_4 H_4 locs_4 ht_4 hvm_4 hr_5 hb_4 hz_4 hk_4 hS_4 => ?_)
    rw [ht_4] at hb_4
    obtain ⟨hb_41, hb_42, hb_43, hb_44, hb_45⟩ := hb_4
    have hh_4 : jSt (dC, dI) B base G0 G0 EX14_isIdK s.heap 0 0 [(r0, 16, 17, .ref zm), (r0, 16, 22, .ref xb), (r0, 16, 23, .ref xe)] [(zm, 117, 3100, ca 1, fs), (xb, 122, 3100, ca 1, fb), (xe, 123, 3100, ca 1, fe)] [] H_4 locs_4 := ((hh_1.call hb_41 hb_42 hb_43 hb_44 hS_4 rfl (L1 := [(r0, 16, 17, .ref zm), (r0, 16, 22, .ref xb), (r0, 16, 23, .ref xe)]) [0, 1, 2] rfl rfl (M1 := [(zm, 117, 3100, ca 1, fs), (xb, 122, 3100, ca 1, fb), (xe, 123, 3100, ca 1, fe)]) [0, 1, 2] rfl rfl (I1 := []) [] rfl rfl).more hb_45)
    clear hh_1 ht_4 hvm_4 hz_4 hk_4 hS_4 hb_41 hb_42 hb_43 hb_44 hb_45
    obtain ⟨hr_5b, hr_5p⟩ := hr_5
    obtain ⟨hr_5p_0, hr_5p_1, hr_5p_2⟩ := hr_5p
    have hr_5' := jb_01 hr_5b
    refine lv_if_eq (tgt := 38) hx hb dX14_isId_13 (by decide) (fun c_6 => ?_) (fun c_6 => ?_)
    · skip
      have c_6' : r_5.toInt = 0 := jb_eq (rfl) ((by decide)) c_6
      refine lv_iconst (v := 0) hx hb dX14_isId_38 (by decide) ?_
      rw [hQ]
      exact W.zret (v := 0) hx hb hr (jb_nz (Or.inl rfl)) (fun t ht hW => ⟨⟨0, (), rfl, ⟨(Or.inl rfl), by first | omega | (refine ⟨?_, ?_, ?_⟩ <;> (first | omega | rfl | assumption | decide | exact Or.inl rfl | exact Or.inr rfl | (simp only; omega)))⟩, hh_4.rt (M1 := []) [] rfl ht⟩, by rw [ht]; try exact hh_4.1.1, fun q h9 hq => by rw [ht]; try exact hh_4.1.2.1 q h9 hq⟩) hh_4.1.2.2 dX14_isId_39
    · skip
      have c_6' : r_5.toInt ≠ 0 := jb_eq_n (rfl) ((by decide)) c_6
      refine lv_aload_n hx hb dX14_isId_16 rfl (lv_at hl 0 rfl) ?_
      refine j7_read hx hb hown hK (C := RX14) (T := TX14) (N := 74) rfl hly_16_23 hlk_55 (hh_4.at 2 rfl) dX14_isId_17 ?_
      refine lv_iload_n hx hb dX14_isId_20 rfl (lv_at hl 1 rfl) ?_
      refine j7_ialdM hx hb hK hh_4 hB123 1 rfl (by decide) hg_xe (x := a1.toInt) (rfl) (by omega) (j := 2) rfl dX14_isId_21 (fun z_7 ez_7 (hz_7 : 0 ≤ z_7.toInt ∧ z_7.toInt ≤ 3100) => ?_)
      have hqz_7 : z_7.toInt = jSo fe (a1.toInt) := by unfold jSo; rw [ez_7]
      refine lv_aload_n hx hb dX14_isId_22 rfl (lv_at hl 0 rfl) ?_
      refine j7_read hx hb hown hK (C := RX14) (T := TX14) (N := 74) rfl hly_16_22 hlk_52 (hh_4.at 1 rfl) dX14_isId_23 ?_
      refine lv_iload_n hx hb dX14_isId_26 rfl (lv_at hl 1 rfl) ?_
      refine j7_ialdM hx hb hK hh_4 hB122 1 rfl (by decide) hg_xb (x := a1.toInt) (rfl) (by omega) (j := 1) rfl dX14_isId_27 (fun z_8 ez_8 (hz_8 : 0 ≤ z_8.toInt ∧ z_8.toInt ≤ 3100) => ?_)
      have hqz_8 : z_8.toInt = jSo fb (a1.toInt) := by unfold jSo; rw [ez_8]
      refine lv_isub hx hb dX14_isId_28 ?_
      refine lv_topi (fun z_9 ez_9 => ?_)
      have hz_9 : z_9.toInt = z_7.toInt - z_8.toInt := by rw [ez_9]; exact jb_isub2 (rfl) (rfl) (by omega)
      refine lv_bipush (v := 20) hx hb dX14_isId_29 (by decide) ?_
      refine lv_icmp_gt (tgt := 38) hx hb dX14_isId_31 (by decide) (fun c_10 => ?_) (fun c_10 => ?_)
      · skip
        have c_10' : z_9.toInt > 20 := jb_gt (rfl) ((by decide)) c_10
        refine lv_iconst (v := 0) hx hb dX14_isId_38 (by decide) ?_
        rw [hQ]
        exact W.zret (v := 0) hx hb hr (jb_nz (Or.inl rfl)) (fun t ht hW => ⟨⟨0, (), rfl, ⟨(Or.inl rfl), by first | omega | (refine ⟨?_, ?_, ?_⟩ <;> (first | omega | rfl | assumption | decide | exact Or.inl rfl | exact Or.inr rfl | (simp only; omega)))⟩, hh_4.rt (M1 := []) [] rfl ht⟩, by rw [ht]; try exact hh_4.1.1, fun q h9 hq => by rw [ht]; try exact hh_4.1.2.1 q h9 hq⟩) hh_4.1.2.2 dX14_isId_39
      · skip
        have c_10' : z_9.toInt ≤ 20 := jb_gt_n (rfl) ((by decide)) c_10
        refine lv_iconst (v := 1) hx hb dX14_isId_34 (by decide) ?_
        refine lv_goto (tgt := 39) hx hb dX14_isId_35 (by decide) ?_
        rw [hQ]
        exact W.zret (v := 1) hx hb hr (jb_nz (Or.inr rfl)) (fun t ht hW => ⟨⟨1, (), rfl, ⟨(Or.inr rfl), by first | omega | (refine ⟨?_, ?_, ?_⟩ <;> (first | omega | rfl | assumption | decide | exact Or.inl rfl | exact Or.inr rfl | (simp only; omega)))⟩, hh_4.rt (M1 := []) [] rfl ht⟩, by rw [ht]; try exact hh_4.1.1, fun q h9 hq => by rw [ht]; try exact hh_4.1.2.1 q h9 hq⟩) hh_4.1.2.2 dX14_isId_39
