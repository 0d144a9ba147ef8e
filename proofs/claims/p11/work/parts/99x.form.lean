-- formulas whose nodes may be -1
theorem jb_push {x t y w : Int32} (ey : y = x <<< (2 &&& 31)) (ew : w = y ||| t) (ht : 0 ≤ t.toInt ∧ t.toInt ≤ 3) (h : (0 ≤ x.toInt ∧ x.toInt < 536870912) ∨ (t.toInt = 1 ∧ x.toInt = -1)) : 0 ≤ w.toInt ∨ w.toInt = -3 := by
  rcases h with ⟨h1, h2⟩ | ⟨h1, h2⟩
  · have h3 := jb_shlc 2 4 ey (by decide) (by decide) h1 (by omega)
    exact Or.inl (jb_or ew (by omega) ht.1)
  · have e1 : x = -1 := Int32.toInt_inj.mp (by rw [h2]; decide)
    have e2 : t = 1 := Int32.toInt_inj.mp (by rw [h1]; decide)
    subst e1; subst e2; subst ey; subst ew
    exact Or.inr (by decide)
theorem jb_and3 (x : Int32) : (x &&& 3).toInt = x.toInt % 4 := by
  have h := pk_and x (m := 3) 2 (by decide)
  have hb := x.toBitVec.isLt
  have hx := ji_toInt x
  rw [h, nI_toInt (by omega), hx]
  split <;> omega
def jLe5 (f : Nat → Int32) (r : Int) : Prop := ∀ j : Int, 0 ≤ j → j < r → jSo f j % 16 = 5
theorem jLe5.step {f : Nat → Int32} {r r1 : Int} (h : jLe5 f r) (h1 : r1 = r + 1) (h2 : jSo f r % 16 = 5) : jLe5 f r1 := fun j a b => by
  by_cases e : j = r
  · subst e; exact h2
  · exact h j a (by omega)
/-- the number of leading quantifiers -/
def jLd (f : Nat → Int32) (n : Nat) (r : Int) : Prop := jLe5 f r ∧ (r = n ∨ r = 12 ∨ jSo f r % 16 ≠ 5)
theorem jLd.uniq {f : Nat → Int32} {n : Nat} {r r1 : Int} (h : jLd f n r) (g : jLd f n r1) (h0 : 0 ≤ r) (h1 : r ≤ n) (h2 : r ≤ 12) (g0 : 0 ≤ r1) (g1 : r1 ≤ n) (g2 : r1 ≤ 12) : r = r1 := by
  rcases Int.lt_trichotomy r r1 with q | q | q
  · have := g.1 r h0 q
    have := h.2
    omega
  · exact q
  · have := h.1 r1 g0 q
    have := g.2
    omega
def EX5_areSameB : List (Nat × Nat) := []
def EX5_leadingBoundB : List (Nat × Nat) := []
def EX11_endOfB : List (Nat × Nat) := []
def EX5_standsAtB : List (Nat × Nat) := []
set_option maxHeartbeats 4000000 in
set_option maxRecDepth 20000 in
theorem uX5_areSameB (l : Launch) (dC : Nat → ClassId) (dI : Nat → Nat → Nat) (ca : Nat → ClassId) (base : Nat) (B : jF) (hB : jBok B) (hAp : jAp (dC, dI)) (hB280 : ∀ n G a H, B 280 n G a H ↔ jAr (dC, dI) (ca 1) (fun j z => -1 ≤ z.toInt) n a H) (G0 : jT) (H0 : Heap) (r0 : Nat) (r1 : Nat) (n0 : Nat) (n1 : Nat) : Met l yX5_areSame (jw yX5_areSame cX5_areSame 3 (some .boolean)) ({ frames := 1, cells := 0, slots := 0, locals := 22 }) (va_Pc [.ref r0, .ref r1] (fun U => U.heap = H0 ∧ jX B base G0 [] H0 ∧ jG dC dI ca base U ∧ G0 r0 = some (280, n0) ∧ G0 r1 = some (280, n1) ∧ jP (dC, dI) G0 H0 [] ∧ n0 < 2147483648 ∧ n1 < 2147483648)) (va_Qi (S := Unit) (fun r u => (r = 0 ∨ r = 1) ∧ (True)) (fun u t => jRt (dC, dI) B base G0 EX5_areSameB H0 [] t.heap) (jA base)) 0 0 (jA base) := by
  refine Met.ofW (cc := cX5_areSame) (maxL := 3) (ret := (some .boolean)) (by decide) rfl ?_
  intro p e s m args below meth c s₁ Bd hml hv
  obtain ⟨rfl, hH0, hX, hG, hg_r0, hg_r1, hP0, hp0, hp1⟩ := hv
  have hK := hG.1
  have hx := Bd.exec
  have hb := Bd.bytes
  have hr := Bd.returns
  have hts := atoms_spec (ws := (jw yX5_areSame cX5_areSame 3 (some .boolean))) Bd.pre
  have htw : ∀ w ∈ jWl, w.before _ s = true := fun w h => hts w (List.mem_cons_of_mem _ h)
  have hown : s.vm.findClass RX5 = some m.cls := findClass_of_methodNamed Bd.named
  have hlocks := Bd.notSynchronized
  obtain ⟨Q, hQ⟩ : ∃ Q, Q = MQ below (va_Qi (S := Unit) (fun r u => (r = 0 ∨ r = 1) ∧ (True)) (fun u t => jRt (dC, dI) B base G0 EX5_areSameB H0 [] t.heap) (jA base)) ([.ref r0, .ref r1] : List Value).toArray s 0 0 (jA base) := ⟨_, rfl⟩
  rw [← hQ]
  have hl := lv_entry ([.ref r0, .ref r1]) (n := 3) (Nat.le_of_ble_eq_true rfl)
  rw [lg_entry_eq]
  generalize (lg_sl ([.ref r0, .ref r1]) ++ List.replicate (3 - (lg_sl ([.ref r0, .ref r1])).length) Slot.unset).toArray = ls at hl ⊢
  have hl : lv_has ls 3 [(0, .ref r0), (1, .ref r1)] := hl
  generalize hR : (headSpec (jw yX5_areSame cX5_areSame 3 (some .boolean)) ({ frames := 1, cells := 0, slots := 0, locals := 22 })).room = R
  subst hH0
  have hh : jSt (dC, dI) B base G0 G0 EX5_areSameB s.heap 0 0 [] [] [] s.heap [] := jSt.start hX hP0 jMc.nil jIs.nil
  clear hX hP0
  have hk0 : (0 : Int32).toInt = 0 := by decide
  have hk1 : (1 : Int32).toInt = 1 := by decide
  refine lv_aload_n hx hb dX5_areSame_0 rfl (lv_at hl 0 rfl) ?_
  refine j7_len hx hb hK hh hB280 1 rfl (by decide) hg_r0 (by omega) dX5_areSame_1 (fun z_1 hz_1 => ?_)
  refine lv_aload_n hx hb dX5_areSame_2 rfl (lv_at hl 1 rfl) ?_
  refine j7_len hx hb hK hh hB280 1 rfl (by decide) hg_r1 (by omega) dX5_areSame_3 (fun z_2 hz_2 => ?_)
  refine lv_icmp_eq (tgt := 9) hx hb dX5_areSame_4 (by decide) (fun c_3 => ?_) (fun c_3 => ?_)
  · skip
    have c_3' : z_1.toInt = z_2.toInt := jb_eq (rfl) (rfl) c_3
    refine lv_iconst (v := 0) hx hb dX5_areSame_9 (by decide) ?_
    refine lv_istore_n (lv' := [(2, .int 0), (0, .ref r0), (1, .ref r1)]) hx hb dX5_areSame_10 rfl hl (by decide) rfl (fun ls hl => ?_)
    have L11 : ∀ (N : Nat) (v2_4 : Int32) (H_4 : Heap) (locs_4 : List Loc), jSt (dC, dI) B base G0 G0 EX5_areSameB s.heap 0 0 [] [] [] H_4 locs_4 → (0 ≤ v2_4.toInt ∧ v2_4.toInt ≤ n0) → (n0 - v2_4.toInt : Int) < N → ∀ ls : Array Slot, lv_has ls 3 [(0, .ref r0), (1, .ref r1), (2, .int v2_4)] → W p l e R s m ([.ref r0, .ref r1] : List Value).toArray below meth c H_4 locs_4 0 0 Q (F0 m 11 ls []) := by
      intro N
      induction N with
      | zero => intro v2_4 H_4 locs_4 hh_4  hi_4 hm; exact absurd hm (by omega)
      | succ N L11 =>
        intro v2_4 H_4 locs_4 hh_4  hi_4 hm_4 ls hl
        obtain ⟨hi_4_0, hi_4_1⟩ := hi_4
        refine lv_iload_n hx hb dX5_areSame_11 rfl (lv_at hl 2 rfl) ?_
        refine lv_aload_n hx hb dX5_areSame_12 rfl (lv_at hl 0 rfl) ?_
        refine j7_len hx hb hK hh_4 hB280 1 rfl (by decide) hg_r0 (by omega) dX5_areSame_13 (fun z_5 hz_5 => ?_)
        refine lv_icmp_ge (tgt := 37) hx hb dX5_areSame_14 (by decide) (fun c_6 => ?_) (fun c_6 => ?_)
        · skip
          have c_6' : v2_4.toInt ≥ z_5.toInt := jb_ge (rfl) (rfl) c_6
          refine lv_iconst (v := 1) hx hb dX5_areSame_37 (by decide) ?_
          rw [hQ]
          exact W.zret (v := 1) hx hb hr (jb_nz (Or.inr rfl)) (fun t ht hW => ⟨⟨1, (), rfl, ⟨(Or.inr rfl), trivial⟩, hh_4.rt (M1 := []) [] rfl ht⟩, by rw [ht]; try exact hh_4.1.1, fun q h9 hq => by rw [ht]; try exact hh_4.1.2.1 q h9 hq⟩) hh_4.1.2.2 dX5_areSame_38
        · skip
          have c_6' : v2_4.toInt < z_5.toInt := jb_ge_n (rfl) (rfl) c_6
          refine lv_aload_n hx hb dX5_areSame_17 rfl (lv_at hl 0 rfl) ?_
          refine lv_iload_n hx hb dX5_areSame_18 rfl (lv_at hl 2 rfl) ?_
          refine j7_iald hx hb hK hh_4 hB280 1 rfl (by decide) hg_r0 (x := v2_4.toInt) (rfl) (by omega) dX5_areSame_19 (fun z_7 (hz_7 : -1 ≤ z_7.toInt) => ?_)
          refine lv_aload_n hx hb dX5_areSame_20 rfl (lv_at hl 1 rfl) ?_
          refine lv_iload_n hx hb dX5_areSame_21 rfl (lv_at hl 2 rfl) ?_
          refine j7_iald hx hb hK hh_4 hB280 1 rfl (by decide) hg_r1 (x := v2_4.toInt) (rfl) (by omega) dX5_areSame_22 (fun z_8 (hz_8 : -1 ≤ z_8.toInt) => ?_)
          refine vp_callSi (W.runS (As := [.int z_7, .int z_8]) (rest := []) ⟨hx, hb, hml, hown, hts⟩ (wX5_areAlike l dC dI ca base H_4 z_7 z_8) (va_cwS 2 hts (jgS (jWr_86 _ (List.mem_of_getElem? (i := 9) rfl)) (jWr_86 _ (List.mem_of_getElem? (i := 10) rfl)) (jWr_2 _ (List.mem_of_getElem? (i := 4) rfl)) (jWr_86 _ (List.mem_of_getElem? (i := 11) rfl))) rfl rfl rfl (by decide +kernel) ⟨by rw [← hR]; exact Nat.le_of_ble_eq_true rfl, by rw [← hR]; exact Nat.le_of_ble_eq_true rfl⟩) ⟨fun a U g mk q => by obtain ⟨q0, q1, qK, q9⟩ := q; exact ⟨q0, q1, jG.calling g mk a qK, q9⟩, fun U hU hW => ⟨rfl, hU, hG.step hW hU hh_4.1, by first | trivial | omega | (constructor <;> omega)⟩⟩ rfl rfl hl.1 rfl (lv_room (Nat.le_of_ble_eq_true rfl)) dX5_areSame_23 ⟨Nat.zero_le _, Nat.zero_le _⟩) (fun r_9 hr_9 => ?_)
          have hr_9' : r_9.toInt = 0 ∨ r_9.toInt = 1 := jb_01 hr_9
          refine lv_if_ne (tgt := 31) hx hb dX5_areSame_26 (by decide) (fun c_10 => ?_) (fun c_10 => ?_)
          · skip
            have c_10' : r_9.toInt ≠ 0 := jb_ne (rfl) ((by decide)) c_10
            obtain ⟨z_11, ez_11⟩ : ∃ y : Int32, y = v2_4 + 1 := ⟨_, rfl⟩
            refine lv_iinc (v := z_11) (lv' := [(2, .int z_11), (0, .ref r0), (1, .ref r1)]) hx hb dX5_areSame_31 hl (k := 2) rfl (by rw [ez_11]; rfl) (by decide) rfl (fun ls hl => ?_)
            have hz_11 : z_11.toInt = v2_4.toInt + 1 := by rw [ez_11]; exact jb_iadd2 (rfl) (by decide) (by omega)
            refine lv_goto (tgt := 11) hx hb dX5_areSame_34 (by decide) ?_
            exact L11 z_11 _ _ hh_4 (by first | omega | (refine ⟨?_, ?_⟩ <;> (first | omega | rfl | assumption | decide | exact Or.inl rfl | exact Or.inr rfl | (simp only; omega)))) (by omega) _ (lv_sub hl [1, 2, 0] rfl)
          · skip
            have c_10' : r_9.toInt = 0 := jb_ne_n (rfl) ((by decide)) c_10
            refine lv_iconst (v := 0) hx hb dX5_areSame_29 (by decide) ?_
            rw [hQ]
            exact W.zret (v := 0) hx hb hr (jb_nz (Or.inl rfl)) (fun t ht hW => ⟨⟨0, (), rfl, ⟨(Or.inl rfl), trivial⟩, hh_4.rt (M1 := []) [] rfl ht⟩, by rw [ht]; try exact hh_4.1.1, fun q h9 hq => by rw [ht]; try exact hh_4.1.2.1 q h9 hq⟩) hh_4.1.2.2 dX5_areSame_30
    exact L11 (n0 - (0 : Int32).toInt : Int).toNat.succ 0 _ _ hh (by first | omega | (refine ⟨?_, ?_⟩ <;> (first | omega | rfl | assumption | decide | exact Or.inl rfl | exact Or.inr rfl | (simp only; omega)))) (by omega) _ (lv_sub hl [1, 2, 0] rfl)
  · skip
    have c_3' : z_1.toInt ≠ z_2.toInt := jb_eq_n (rfl) (rfl) c_3
    refine lv_iconst (v := 0) hx hb dX5_areSame_7 (by decide) ?_
    rw [hQ]
    exact W.zret (v := 0) hx hb hr (jb_nz (Or.inl rfl)) (fun t ht hW => ⟨⟨0, (), rfl, ⟨(Or.inl rfl), trivial⟩, hh.rt (M1 := []) [] rfl ht⟩, by rw [ht]; try exact hh.1.1, fun q h9 hq => by rw [ht]; try exact hh.1.2.1 q h9 hq⟩) hh.1.2.2 dX5_areSame_8
set_option maxHeartbeats 4000000 in
set_option maxRecDepth 20000 in
theorem uX5_leadingBoundB (l : Launch) (dC : Nat → ClassId) (dI : Nat → Nat → Nat) (ca : Nat → ClassId) (base : Nat) (B : jF) (hB : jBok B) (hAp : jAp (dC, dI)) (hB280 : ∀ n G a H, B 280 n G a H ↔ jAr (dC, dI) (ca 1) (fun j z => -1 ≤ z.toInt) n a H) (G0 : jT) (H0 : Heap) (r0 : Nat) (n0 : Nat) (ff : Nat → Int32) : Met l yX5_leadingBound (jw yX5_leadingBound cX5_leadingBound 2 (some .int)) ({ frames := 0, cells := 0, slots := 0, locals := 0 }) (va_Pc [.ref r0] (fun U => U.heap = H0 ∧ jX B base G0 [] H0 ∧ jG dC dI ca base U ∧ G0 r0 = some (280, n0) ∧ jP (dC, dI) G0 H0 [] ∧ jMc (dC, dI) G0 H0 [(r0, 280, n0, ca 1, ff)] ∧ n0 < 2147483648)) (va_Qi (S := Unit) (fun r u => (0 ≤ r.toInt ∧ r.toInt ≤ n0 ∧ r.toInt ≤ 12 ∧ jLd ff n0 r.toInt)) (fun u t => jRt (dC, dI) B base G0 EX5_leadingBoundB H0 [] t.heap) (jA base)) 0 0 (jA base) := by
  refine Met.ofW (cc := cX5_leadingBound) (maxL := 2) (ret := (some .int)) (by decide) rfl ?_
  intro p e s m args below meth c s₁ Bd hml hv
  obtain ⟨rfl, hH0, hX, hG, hg_r0, hP0, hM0, hp0⟩ := hv
  have hK := hG.1
  have hx := Bd.exec
  have hb := Bd.bytes
  have hr := Bd.returns
  have hts := atoms_spec (ws := (jw yX5_leadingBound cX5_leadingBound 2 (some .int))) Bd.pre
  have htw : ∀ w ∈ jWl, w.before _ s = true := fun w h => hts w (List.mem_cons_of_mem _ h)
  have hown : s.vm.findClass RX5 = some m.cls := findClass_of_methodNamed Bd.named
  have hlocks := Bd.notSynchronized
  obtain ⟨Q, hQ⟩ : ∃ Q, Q = MQ below (va_Qi (S := Unit) (fun r u => (0 ≤ r.toInt ∧ r.toInt ≤ n0 ∧ r.toInt ≤ 12 ∧ jLd ff n0 r.toInt)) (fun u t => jRt (dC, dI) B base G0 EX5_leadingBoundB H0 [] t.heap) (jA base)) ([.ref r0] : List Value).toArray s 0 0 (jA base) := ⟨_, rfl⟩
  rw [← hQ]
  have hl := lv_entry ([.ref r0]) (n := 2) (Nat.le_of_ble_eq_true rfl)
  rw [lg_entry_eq]
  generalize (lg_sl ([.ref r0]) ++ List.replicate (2 - (lg_sl ([.ref r0])).length) Slot.unset).toArray = ls at hl ⊢
  have hl : lv_has ls 2 [(0, .ref r0)] := hl
  generalize hR : (headSpec (jw yX5_leadingBound cX5_leadingBound 2 (some .int)) ({ frames := 0, cells := 0, slots := 0, locals := 0 })).room = R
  subst hH0
  have hh : jSt (dC, dI) B base G0 G0 EX5_leadingBoundB s.heap 0 0 [] [(r0, 280, n0, ca 1, ff)] [] s.heap [] := jSt.start hX hP0 hM0 jIs.nil
  clear hX hP0
  have hk0 : (0 : Int32).toInt = 0 := by decide
  have hk1 : (1 : Int32).toInt = 1 := by decide
  have hk5 : (5 : Int32).toInt = 5 := by decide
  have hk12 : (12 : Int32).toInt = 12 := by decide
  have hk15 : (15 : Int32).toInt = 15 := by decide
  refine lv_iconst (v := 0) hx hb dX5_leadingBound_0 (by decide) ?_
  refine lv_istore_n (lv' := [(1, .int 0), (0, .ref r0)]) hx hb dX5_leadingBound_1 rfl hl (by decide) rfl (fun ls hl => ?_)
  have L2 : ∀ (N : Nat) (v1_1 : Int32) (H_1 : Heap) (locs_1 : List Loc), jSt (dC, dI) B base G0 G0 EX5_leadingBoundB s.heap 0 0 [] [(r0, 280, n0, ca 1, ff)] [] H_1 locs_1 → (0 ≤ v1_1.toInt ∧ v1_1.toInt ≤ n0 ∧ v1_1.toInt ≤ 12 ∧ jLe5 ff v1_1.toInt) → (12 - v1_1.toInt : Int) < N → ∀ ls : Array Slot, lv_has ls 2 [(0, .ref r0), (1, .int v1_1)] → W p l e R s m ([.ref r0] : List Value).toArray below meth c H_1 locs_1 0 0 Q (F0 m 2 ls []) := by
    intro N
    induction N with
    | zero => intro v1_1 H_1 locs_1 hh_1  hi_1 hm; exact absurd hm (by omega)
    | succ N L2 =>
      intro v1_1 H_1 locs_1 hh_1  hi_1 hm_1 ls hl
      obtain ⟨hi_1_0, hi_1_1, hi_1_2, hi_1_3⟩ := hi_1
      refine lv_iload_n hx hb dX5_leadingBound_2 rfl (lv_at hl 1 rfl) ?_
      refine lv_aload_n hx hb dX5_leadingBound_3 rfl (lv_at hl 0 rfl) ?_
      refine j7_len hx hb hK hh_1 hB280 1 rfl (by decide) hg_r0 (by omega) dX5_leadingBound_4 (fun z_2 hz_2 => ?_)
      refine lv_icmp_ge (tgt := 30) hx hb dX5_leadingBound_5 (by decide) (fun c_3 => ?_) (fun c_3 => ?_)
      · skip
        have c_3' : v1_1.toInt ≥ z_2.toInt := jb_ge (rfl) (rfl) c_3
        refine lv_iload_n hx hb dX5_leadingBound_30 rfl (lv_at hl 1 rfl) ?_
        rw [hQ]
        exact W.iret (v := v1_1) hx hb hr (fun t ht hW => ⟨⟨v1_1, (), rfl, by refine ⟨by omega, by omega, by omega, ?_⟩; exact And.intro hi_1_3 (by omega), hh_1.rt (M1 := []) [] rfl ht⟩, by rw [ht]; try exact hh_1.1.1, fun q h9 hq => by rw [ht]; try exact hh_1.1.2.1 q h9 hq⟩) hh_1.1.2.2 dX5_leadingBound_31
      · skip
        have c_3' : v1_1.toInt < z_2.toInt := jb_ge_n (rfl) (rfl) c_3
        refine lv_iload_n hx hb dX5_leadingBound_8 rfl (lv_at hl 1 rfl) ?_
        refine lv_bipush (v := 12) hx hb dX5_leadingBound_9 (by decide) ?_
        refine lv_icmp_ge (tgt := 30) hx hb dX5_leadingBound_11 (by decide) (fun c_4 => ?_) (fun c_4 => ?_)
        · skip
          have c_4' : v1_1.toInt ≥ 12 := jb_ge (rfl) ((by decide)) c_4
          refine lv_iload_n hx hb dX5_leadingBound_30 rfl (lv_at hl 1 rfl) ?_
          rw [hQ]
          exact W.iret (v := v1_1) hx hb hr (fun t ht hW => ⟨⟨v1_1, (), rfl, by refine ⟨by omega, by omega, by omega, ?_⟩; exact And.intro hi_1_3 (by omega), hh_1.rt (M1 := []) [] rfl ht⟩, by rw [ht]; try exact hh_1.1.1, fun q h9 hq => by rw [ht]; try exact hh_1.1.2.1 q h9 hq⟩) hh_1.1.2.2 dX5_leadingBound_31
        · skip
          have c_4' : v1_1.toInt < 12 := jb_ge_n (rfl) ((by decide)) c_4
          refine lv_aload_n hx hb dX5_leadingBound_14 rfl (lv_at hl 0 rfl) ?_
          refine lv_iload_n hx hb dX5_leadingBound_15 rfl (lv_at hl 1 rfl) ?_
          refine j7_ialdM hx hb hK hh_1 hB280 1 rfl (by decide) hg_r0 (x := v1_1.toInt) (rfl) (by omega) (j := 0) rfl dX5_leadingBound_16 (fun z_5 ez_5 (hz_5 : -1 ≤ z_5.toInt) => ?_)
          have hqz_5 : z_5.toInt = jSo ff (v1_1.toInt) := by unfold jSo; rw [ez_5]
          refine lv_bipush (v := 15) hx hb dX5_leadingBound_17 (by decide) ?_
          refine lv_iand hx hb dX5_leadingBound_19 ?_
          refine lv_topi (fun z_6 ez_6 => ?_)
          have hz_6 : 0 ≤ z_6.toInt ∧ z_6.toInt ≤ 15 := by rw [ez_6]; exact jb_and z_5 (m := 15) (k := 4) (by decide) (by decide)
          have hbz_6 : z_6.toInt = z_5.toInt % 16 := by rw [ez_6, jb_and15]
          refine lv_iconst (v := 5) hx hb dX5_leadingBound_20 (by decide) ?_
          refine lv_icmp_ne (tgt := 30) hx hb dX5_leadingBound_21 (by decide) (fun c_7 => ?_) (fun c_7 => ?_)
          · skip
            have c_7' : z_6.toInt ≠ 5 := jb_ne (rfl) ((by decide)) c_7
            refine lv_iload_n hx hb dX5_leadingBound_30 rfl (lv_at hl 1 rfl) ?_
            rw [hQ]
            exact W.iret (v := v1_1) hx hb hr (fun t ht hW => ⟨⟨v1_1, (), rfl, by refine ⟨by omega, by omega, by omega, ?_⟩; exact And.intro hi_1_3 (by omega), hh_1.rt (M1 := []) [] rfl ht⟩, by rw [ht]; try exact hh_1.1.1, fun q h9 hq => by rw [ht]; try exact hh_1.1.2.1 q h9 hq⟩) hh_1.1.2.2 dX5_leadingBound_31
          · skip
            have c_7' : z_6.toInt = 5 := jb_ne_n (rfl) ((by decide)) c_7
            obtain ⟨z_8, ez_8⟩ : ∃ y : Int32, y = v1_1 + 1 := ⟨_, rfl⟩
            refine lv_iinc (v := z_8) (lv' := [(1, .int z_8), (0, .ref r0)]) hx hb dX5_leadingBound_24 hl (k := 1) rfl (by rw [ez_8]; rfl) (by decide) rfl (fun ls hl => ?_)
            have hz_8 : z_8.toInt = v1_1.toInt + 1 := by rw [ez_8]; exact jb_iadd2 (rfl) (by decide) (by omega)
            refine lv_goto (tgt := 2) hx hb dX5_leadingBound_27 (by decide) ?_
            exact L2 z_8 _ _ hh_1 (by refine ⟨by omega, by omega, by omega, hi_1_3.step (by omega) (by omega)⟩) (by omega) _ (lv_sub hl [1, 0] rfl)
  exact L2 (12 - (0 : Int32).toInt : Int).toNat.succ 0 _ _ hh (by refine ⟨by omega, by omega, by omega, fun j h0 h1 => by omega⟩) (by omega) _ (lv_sub hl [1, 0] rfl)
set_option maxHeartbeats 4000000 in
set_option maxRecDepth 20000 in
theorem uX11_endOfB (l : Launch) (dC : Nat → ClassId) (dI : Nat → Nat → Nat) (ca : Nat → ClassId) (base : Nat) (B : jF) (hB : jBok B) (hAp : jAp (dC, dI)) (hB280 : ∀ n G a H, B 280 n G a H ↔ jAr (dC, dI) (ca 1) (fun j z => -1 ≤ z.toInt) n a H) (G0 : jT) (H0 : Heap) (r0 : Nat) (a1 : Int32) (a2 : Int32) (n0 : Nat) : Met l yX11_endOf (jw yX11_endOf cX11_endOf 6 (some .int)) ({ frames := 0, cells := 0, slots := 0, locals := 0 }) (va_Pc [.ref r0, .int a1, .int a2] (fun U => U.heap = H0 ∧ jX B base G0 [] H0 ∧ jG dC dI ca base U ∧ G0 r0 = some (280, n0) ∧ jP (dC, dI) G0 H0 [] ∧ 0 ≤ a1.toInt ∧ a1.toInt ≤ 200000 ∧ n0 ≤ 100000)) (va_Qi (S := Unit) (fun r u => (a1.toInt ≤ r.toInt ∧ (r.toInt = a1.toInt ∨ r.toInt ≤ n0))) (fun u t => jRt (dC, dI) B base G0 EX11_endOfB H0 [] t.heap) (jA base)) 0 0 (jA base) := by
  refine Met.ofW (cc := cX11_endOf) (maxL := 6) (ret := (some .int)) (by decide) rfl ?_
  intro p e s m args below meth c s₁ Bd hml hv
  obtain ⟨rfl, hH0, hX, hG, hg_r0, hP0, hp0, hp1, hp2⟩ := hv
  have hK := hG.1
  have hx := Bd.exec
  have hb := Bd.bytes
  have hr := Bd.returns
  have hts := atoms_spec (ws := (jw yX11_endOf cX11_endOf 6 (some .int))) Bd.pre
  have htw : ∀ w ∈ jWl, w.before _ s = true := fun w h => hts w (List.mem_cons_of_mem _ h)
  have hown : s.vm.findClass RX11 = some m.cls := findClass_of_methodNamed Bd.named
  have hlocks := Bd.notSynchronized
  obtain ⟨Q, hQ⟩ : ∃ Q, Q = MQ below (va_Qi (S := Unit) (fun r u => (a1.toInt ≤ r.toInt ∧ (r.toInt = a1.toInt ∨ r.toInt ≤ n0))) (fun u t => jRt (dC, dI) B base G0 EX11_endOfB H0 [] t.heap) (jA base)) ([.ref r0, .int a1, .int a2] : List Value).toArray s 0 0 (jA base) := ⟨_, rfl⟩
  rw [← hQ]
  have hl := lv_entry ([.ref r0, .int a1, .int a2]) (n := 6) (Nat.le_of_ble_eq_true rfl)
  rw [lg_entry_eq]
  generalize (lg_sl ([.ref r0, .int a1, .int a2]) ++ List.replicate (6 - (lg_sl ([.ref r0, .int a1, .int a2])).length) Slot.unset).toArray = ls at hl ⊢
  have hl : lv_has ls 6 [(0, .ref r0), (1, .int a1), (2, .int a2)] := hl
  generalize hR : (headSpec (jw yX11_endOf cX11_endOf 6 (some .int)) ({ frames := 0, cells := 0, slots := 0, locals := 0 })).room = R
  subst hH0
  have hh : jSt (dC, dI) B base G0 G0 EX11_endOfB s.heap 0 0 [] [] [] s.heap [] := jSt.start hX hP0 jMc.nil jIs.nil
  clear hX hP0
  have hk0 : (0 : Int32).toInt = 0 := by decide
  have hk1 : (1 : Int32).toInt = 1 := by decide
  have hk4 : (4 : Int32).toInt = 4 := by decide
  have hk5 : (5 : Int32).toInt = 5 := by decide
  have hk6 : (6 : Int32).toInt = 6 := by decide
  have hk7 : (7 : Int32).toInt = 7 := by decide
  have hk8 : (8 : Int32).toInt = 8 := by decide
  have hk15 : (15 : Int32).toInt = 15 := by decide
  have hk2047 : (2047 : Int32).toInt = 2047 := by decide
  have hrg_a1 := jb_rng a1
  have hrg_a2 := jb_rng a2
  refine lv_iconst (v := 1) hx hb dX11_endOf_0 (by decide) ?_
  refine lv_istore_n (lv' := [(3, .int 1), (0, .ref r0), (1, .int a1), (2, .int a2)]) hx hb dX11_endOf_1 rfl hl (by decide) rfl (fun ls hl => ?_)
  refine lv_iload_n hx hb dX11_endOf_2 rfl (lv_at hl 2 rfl) ?_
  refine lv_istore (lv' := [(4, .int a1), (3, .int 1), (0, .ref r0), (1, .int a1), (2, .int a2)]) hx hb dX11_endOf_3 hl (by decide) rfl (fun ls hl => ?_)
  have L5 : ∀ (N : Nat) (v3_1 : Int32) (v4_1 : Int32) (H_1 : Heap) (locs_1 : List Loc), jSt (dC, dI) B base G0 G0 EX11_endOfB s.heap 0 0 [] [] [] H_1 locs_1 → (a1.toInt ≤ v4_1.toInt ∧ 0 ≤ v3_1.toInt ∧ v3_1.toInt ≤ 2048 * (v4_1.toInt - a1.toInt) + 1 ∧ (v4_1.toInt = a1.toInt ∨ v4_1.toInt ≤ n0)) → (((n0 - v4_1.toInt).toNat : Int) : Int) < N → ∀ ls : Array Slot, lv_has ls 6 [(0, .ref r0), (1, .int a1), (2, .int a2), (3, .int v3_1), (4, .int v4_1)] → W p l e R s m ([.ref r0, .int a1, .int a2] : List Value).toArray below meth c H_1 locs_1 0 0 Q (F0 m 5 ls []) := by
    intro N
    induction N with
    | zero => intro v3_1 v4_1 H_1 locs_1 hh_1  hi_1 hm; exact absurd hm (by omega)
    | succ N L5 =>
      intro v3_1 v4_1 H_1 locs_1 hh_1  hi_1 hm_1 ls hl
      obtain ⟨hi_1_0, hi_1_1, hi_1_2, hi_1_3⟩ := hi_1
      refine lv_iload hx hb dX11_endOf_5 (lv_at hl 4 rfl) ?_
      refine lv_iload_n hx hb dX11_endOf_7 rfl (lv_at hl 2 rfl) ?_
      refine lv_icmp_ge (tgt := 103) hx hb dX11_endOf_8 (by decide) (fun c_2 => ?_) (fun c_2 => ?_)
      · skip
        have c_2' : v4_1.toInt ≥ a2.toInt := jb_ge (rfl) (rfl) c_2
        refine lv_iload hx hb dX11_endOf_103 (lv_at hl 4 rfl) ?_
        rw [hQ]
        exact W.iret (v := v4_1) hx hb hr (fun t ht hW => ⟨⟨v4_1, (), rfl, by first | omega | (refine ⟨?_, ?_⟩ <;> (first | omega | rfl | assumption | decide | exact Or.inl rfl | exact Or.inr rfl | (simp only; omega))), hh_1.rt (M1 := []) [] rfl ht⟩, by rw [ht]; try exact hh_1.1.1, fun q h9 hq => by rw [ht]; try exact hh_1.1.2.1 q h9 hq⟩) hh_1.1.2.2 dX11_endOf_105
      · skip
        have c_2' : v4_1.toInt < a2.toInt := jb_ge_n (rfl) (rfl) c_2
        refine lv_iload hx hb dX11_endOf_11 (lv_at hl 4 rfl) ?_
        refine lv_aload_n hx hb dX11_endOf_13 rfl (lv_at hl 0 rfl) ?_
        refine j7_len hx hb hK hh_1 hB280 1 rfl (by decide) hg_r0 (by omega) dX11_endOf_14 (fun z_3 hz_3 => ?_)
        refine lv_icmp_ge (tgt := 103) hx hb dX11_endOf_15 (by decide) (fun c_4 => ?_) (fun c_4 => ?_)
        · skip
          have c_4' : v4_1.toInt ≥ z_3.toInt := jb_ge (rfl) (rfl) c_4
          refine lv_iload hx hb dX11_endOf_103 (lv_at hl 4 rfl) ?_
          rw [hQ]
          exact W.iret (v := v4_1) hx hb hr (fun t ht hW => ⟨⟨v4_1, (), rfl, by first | omega | (refine ⟨?_, ?_⟩ <;> (first | omega | rfl | assumption | decide | exact Or.inl rfl | exact Or.inr rfl | (simp only; omega))), hh_1.rt (M1 := []) [] rfl ht⟩, by rw [ht]; try exact hh_1.1.1, fun q h9 hq => by rw [ht]; try exact hh_1.1.2.1 q h9 hq⟩) hh_1.1.2.2 dX11_endOf_105
        · skip
          have c_4' : v4_1.toInt < z_3.toInt := jb_ge_n (rfl) (rfl) c_4
          refine lv_iload_n hx hb dX11_endOf_18 rfl (lv_at hl 3 rfl) ?_
          refine lv_if_le (tgt := 103) hx hb dX11_endOf_19 (by decide) (fun c_5 => ?_) (fun c_5 => ?_)
          · skip
            have c_5' : v3_1.toInt ≤ 0 := jb_le (rfl) ((by decide)) c_5
            refine lv_iload hx hb dX11_endOf_103 (lv_at hl 4 rfl) ?_
            rw [hQ]
            exact W.iret (v := v4_1) hx hb hr (fun t ht hW => ⟨⟨v4_1, (), rfl, by first | omega | (refine ⟨?_, ?_⟩ <;> (first | omega | rfl | assumption | decide | exact Or.inl rfl | exact Or.inr rfl | (simp only; omega))), hh_1.rt (M1 := []) [] rfl ht⟩, by rw [ht]; try exact hh_1.1.1, fun q h9 hq => by rw [ht]; try exact hh_1.1.2.1 q h9 hq⟩) hh_1.1.2.2 dX11_endOf_105
          · skip
            have c_5' : v3_1.toInt > 0 := jb_le_n (rfl) ((by decide)) c_5
            refine lv_aload_n hx hb dX11_endOf_22 rfl (lv_at hl 0 rfl) ?_
            refine lv_iload hx hb dX11_endOf_23 (lv_at hl 4 rfl) ?_
            refine j7_iald hx hb hK hh_1 hB280 1 rfl (by decide) hg_r0 (x := v4_1.toInt) (rfl) (by omega) dX11_endOf_25 (fun z_6 (hz_6 : -1 ≤ z_6.toInt) => ?_)
            refine lv_bipush (v := 15) hx hb dX11_endOf_26 (by decide) ?_
            refine lv_iand hx hb dX11_endOf_28 ?_
            refine lv_topi (fun z_7 ez_7 => ?_)
            have hz_7 : 0 ≤ z_7.toInt ∧ z_7.toInt ≤ 15 := by rw [ez_7]; exact jb_and z_6 (m := 15) (k := 4) (by decide) (by decide)
            refine lv_istore (lv' := [(5, .int z_7), (0, .ref r0), (1, .int a1), (2, .int a2), (3, .int v3_1), (4, .int v4_1)]) hx hb dX11_endOf_29 hl (by decide) rfl (fun ls hl => ?_)
            refine lv_iload hx hb dX11_endOf_31 (lv_at hl 0 rfl) ?_
            refine lv_iconst (v := 1) hx hb dX11_endOf_33 (by decide) ?_
            refine lv_icmp_lt (tgt := 49) hx hb dX11_endOf_34 (by decide) (fun c_8 => ?_) (fun c_8 => ?_)
            · skip
              have c_8' : z_7.toInt < 1 := jb_lt (rfl) ((by decide)) c_8
              refine lv_iload hx hb dX11_endOf_49 (lv_at hl 0 rfl) ?_
              refine lv_bipush (v := 7) hx hb dX11_endOf_51 (by decide) ?_
              refine lv_icmp_eq (tgt := 63) hx hb dX11_endOf_53 (by decide) (fun c_9 => ?_) (fun c_9 => ?_)
              · skip
                have c_9' : z_7.toInt = 7 := jb_eq (rfl) ((by decide)) c_9
                refine lv_iload_n hx hb dX11_endOf_63 rfl (lv_at hl 4 rfl) ?_
                refine lv_aload_n hx hb dX11_endOf_64 rfl (lv_at hl 1 rfl) ?_
                refine lv_iload hx hb dX11_endOf_65 (lv_at hl 5 rfl) ?_
                refine j7_iald hx hb hK hh_1 hB280 1 rfl (by decide) hg_r0 (x := v4_1.toInt) (rfl) (by omega) dX11_endOf_67 (fun z_10 (hz_10 : -1 ≤ z_10.toInt) => ?_)
                refine lv_iconst (v := 4) hx hb dX11_endOf_68 (by decide) ?_
                refine lv_ishr hx hb dX11_endOf_69 ?_
                refine lv_topi (fun z_11 ez_11 => ?_)
                have hz_11 : z_11.toInt = z_10.toInt / 2 ^ 4 := by rw [ez_11]; exact jb_ishr 4 (rfl) (by decide)
                refine lv_sipush (v := 2047) hx hb dX11_endOf_70 (by decide) ?_
                refine lv_iand hx hb dX11_endOf_73 ?_
                refine lv_topi (fun z_12 ez_12 => ?_)
                have hz_12 : 0 ≤ z_12.toInt ∧ z_12.toInt ≤ 2047 := by rw [ez_12]; exact jb_and z_11 (m := 2047) (k := 11) (by decide) (by decide)
                refine lv_iconst (v := 1) hx hb dX11_endOf_74 (by decide) ?_
                refine lv_isub hx hb dX11_endOf_75 ?_
                refine lv_topi (fun z_13 ez_13 => ?_)
                have hz_13 : z_13.toInt = z_12.toInt - 1 := by rw [ez_13]; exact jb_isub2 (rfl) ((by decide)) (by omega)
                refine lv_iadd hx hb dX11_endOf_76 ?_
                refine lv_topi (fun z_14 ez_14 => ?_)
                have hz_14 : z_14.toInt = v3_1.toInt + z_13.toInt := by rw [ez_14]; exact jb_iadd2 (rfl) (rfl) (by omega)
                refine lv_istore_n (lv' := [(3, .int z_14), (5, .int z_7), (0, .ref r0), (1, .int a1), (2, .int a2), (4, .int v4_1)]) hx hb dX11_endOf_77 rfl hl (by decide) rfl (fun ls hl => ?_)
                refine lv_goto (tgt := 97) hx hb dX11_endOf_78 (by decide) ?_
                obtain ⟨z_15, ez_15⟩ : ∃ y : Int32, y = v4_1 + 1 := ⟨_, rfl⟩
                refine lv_iinc (v := z_15) (lv' := [(4, .int z_15), (3, .int z_14), (5, .int z_7), (0, .ref r0), (1, .int a1), (2, .int a2)]) hx hb dX11_endOf_97 hl (k := 5) rfl (by rw [ez_15]; rfl) (by decide) rfl (fun ls hl => ?_)
                have hz_15 : z_15.toInt = v4_1.toInt + 1 := by rw [ez_15]; exact jb_iadd2 (rfl) (by decide) (by omega)
                refine lv_goto (tgt := 5) hx hb dX11_endOf_100 (by decide) ?_
                exact L5 z_14 z_15 _ _ hh_1 (by first | omega | (refine ⟨?_, ?_, ?_, ?_⟩ <;> (first | omega | rfl | assumption | decide | exact Or.inl rfl | exact Or.inr rfl | (simp only; omega)))) (by omega) _ (lv_sub hl [3, 4, 5, 1, 0] rfl)
              · skip
                have c_9' : z_7.toInt ≠ 7 := jb_eq_n (rfl) ((by decide)) c_9
                refine lv_iload hx hb dX11_endOf_56 (lv_at hl 0 rfl) ?_
                refine lv_bipush (v := 8) hx hb dX11_endOf_58 (by decide) ?_
                refine lv_icmp_ne (tgt := 81) hx hb dX11_endOf_60 (by decide) (fun c_16 => ?_) (fun c_16 => ?_)
                · skip
                  have c_16' : z_7.toInt ≠ 8 := jb_ne (rfl) ((by decide)) c_16
                  refine lv_iload hx hb dX11_endOf_81 (lv_at hl 0 rfl) ?_
                  refine lv_iconst (v := 5) hx hb dX11_endOf_83 (by decide) ?_
                  refine lv_icmp_eq (tgt := 97) hx hb dX11_endOf_84 (by decide) (fun c_17 => ?_) (fun c_17 => ?_)
                  · skip
                    have c_17' : z_7.toInt = 5 := jb_eq (rfl) ((by decide)) c_17
                    obtain ⟨z_18, ez_18⟩ : ∃ y : Int32, y = v4_1 + 1 := ⟨_, rfl⟩
                    refine lv_iinc (v := z_18) (lv' := [(4, .int z_18), (5, .int z_7), (0, .ref r0), (1, .int a1), (2, .int a2), (3, .int v3_1)]) hx hb dX11_endOf_97 hl (k := 5) rfl (by rw [ez_18]; rfl) (by decide) rfl (fun ls hl => ?_)
                    have hz_18 : z_18.toInt = v4_1.toInt + 1 := by rw [ez_18]; exact jb_iadd2 (rfl) (by decide) (by omega)
                    refine lv_goto (tgt := 5) hx hb dX11_endOf_100 (by decide) ?_
                    exact L5 v3_1 z_18 _ _ hh_1 (by first | omega | (refine ⟨?_, ?_, ?_, ?_⟩ <;> (first | omega | rfl | assumption | decide | exact Or.inl rfl | exact Or.inr rfl | (simp only; omega)))) (by omega) _ (lv_sub hl [2, 3, 4, 5, 0] rfl)
                  · skip
                    have c_17' : z_7.toInt ≠ 5 := jb_eq_n (rfl) ((by decide)) c_17
                    refine lv_iload hx hb dX11_endOf_87 (lv_at hl 0 rfl) ?_
                    refine lv_bipush (v := 6) hx hb dX11_endOf_89 (by decide) ?_
                    refine lv_icmp_eq (tgt := 97) hx hb dX11_endOf_91 (by decide) (fun c_19 => ?_) (fun c_19 => ?_)
                    · skip
                      have c_19' : z_7.toInt = 6 := jb_eq (rfl) ((by decide)) c_19
                      obtain ⟨z_20, ez_20⟩ : ∃ y : Int32, y = v4_1 + 1 := ⟨_, rfl⟩
                      refine lv_iinc (v := z_20) (lv' := [(4, .int z_20), (5, .int z_7), (0, .ref r0), (1, .int a1), (2, .int a2), (3, .int v3_1)]) hx hb dX11_endOf_97 hl (k := 5) rfl (by rw [ez_20]; rfl) (by decide) rfl (fun ls hl => ?_)
                      have hz_20 : z_20.toInt = v4_1.toInt + 1 := by rw [ez_20]; exact jb_iadd2 (rfl) (by decide) (by omega)
                      refine lv_goto (tgt := 5) hx hb dX11_endOf_100 (by decide) ?_
                      exact L5 v3_1 z_20 _ _ hh_1 (by first | omega | (refine ⟨?_, ?_, ?_, ?_⟩ <;> (first | omega | rfl | assumption | decide | exact Or.inl rfl | exact Or.inr rfl | (simp only; omega)))) (by omega) _ (lv_sub hl [2, 3, 4, 5, 0] rfl)
                    · skip
                      have c_19' : z_7.toInt ≠ 6 := jb_eq_n (rfl) ((by decide)) c_19
                      obtain ⟨z_21, ez_21⟩ : ∃ y : Int32, y = v3_1 + (-1) := ⟨_, rfl⟩
                      refine lv_iinc (v := z_21) (lv' := [(3, .int z_21), (5, .int z_7), (0, .ref r0), (1, .int a1), (2, .int a2), (4, .int v4_1)]) hx hb dX11_endOf_94 hl (k := 4) rfl (by rw [ez_21]; rfl) (by decide) rfl (fun ls hl => ?_)
                      have hz_21 : z_21.toInt = v3_1.toInt + (-1) := by rw [ez_21]; exact jb_iadd2 (rfl) (by decide) (by omega)
                      obtain ⟨z_22, ez_22⟩ : ∃ y : Int32, y = v4_1 + 1 := ⟨_, rfl⟩
                      refine lv_iinc (v := z_22) (lv' := [(4, .int z_22), (3, .int z_21), (5, .int z_7), (0, .ref r0), (1, .int a1), (2, .int a2)]) hx hb dX11_endOf_97 hl (k := 5) rfl (by rw [ez_22]; rfl) (by decide) rfl (fun ls hl => ?_)
                      have hz_22 : z_22.toInt = v4_1.toInt + 1 := by rw [ez_22]; exact jb_iadd2 (rfl) (by decide) (by omega)
                      refine lv_goto (tgt := 5) hx hb dX11_endOf_100 (by decide) ?_
                      exact L5 z_21 z_22 _ _ hh_1 (by first | omega | (refine ⟨?_, ?_, ?_, ?_⟩ <;> (first | omega | rfl | assumption | decide | exact Or.inl rfl | exact Or.inr rfl | (simp only; omega)))) (by omega) _ (lv_sub hl [3, 4, 5, 1, 0] rfl)
                · skip
                  have c_16' : z_7.toInt = 8 := jb_ne_n (rfl) ((by decide)) c_16
                  refine lv_iload_n hx hb dX11_endOf_63 rfl (lv_at hl 4 rfl) ?_
                  refine lv_aload_n hx hb dX11_endOf_64 rfl (lv_at hl 1 rfl) ?_
                  refine lv_iload hx hb dX11_endOf_65 (lv_at hl 5 rfl) ?_
                  refine j7_iald hx hb hK hh_1 hB280 1 rfl (by decide) hg_r0 (x := v4_1.toInt) (rfl) (by omega) dX11_endOf_67 (fun z_23 (hz_23 : -1 ≤ z_23.toInt) => ?_)
                  refine lv_iconst (v := 4) hx hb dX11_endOf_68 (by decide) ?_
                  refine lv_ishr hx hb dX11_endOf_69 ?_
                  refine lv_topi (fun z_24 ez_24 => ?_)
                  have hz_24 : z_24.toInt = z_23.toInt / 2 ^ 4 := by rw [ez_24]; exact jb_ishr 4 (rfl) (by decide)
                  refine lv_sipush (v := 2047) hx hb dX11_endOf_70 (by decide) ?_
                  refine lv_iand hx hb dX11_endOf_73 ?_
                  refine lv_topi (fun z_25 ez_25 => ?_)
                  have hz_25 : 0 ≤ z_25.toInt ∧ z_25.toInt ≤ 2047 := by rw [ez_25]; exact jb_and z_24 (m := 2047) (k := 11) (by decide) (by decide)
                  refine lv_iconst (v := 1) hx hb dX11_endOf_74 (by decide) ?_
                  refine lv_isub hx hb dX11_endOf_75 ?_
                  refine lv_topi (fun z_26 ez_26 => ?_)
                  have hz_26 : z_26.toInt = z_25.toInt - 1 := by rw [ez_26]; exact jb_isub2 (rfl) ((by decide)) (by omega)
                  refine lv_iadd hx hb dX11_endOf_76 ?_
                  refine lv_topi (fun z_27 ez_27 => ?_)
                  have hz_27 : z_27.toInt = v3_1.toInt + z_26.toInt := by rw [ez_27]; exact jb_iadd2 (rfl) (rfl) (by omega)
                  refine lv_istore_n (lv' := [(3, .int z_27), (5, .int z_7), (0, .ref r0), (1, .int a1), (2, .int a2), (4, .int v4_1)]) hx hb dX11_endOf_77 rfl hl (by decide) rfl (fun ls hl => ?_)
                  refine lv_goto (tgt := 97) hx hb dX11_endOf_78 (by decide) ?_
                  obtain ⟨z_28, ez_28⟩ : ∃ y : Int32, y = v4_1 + 1 := ⟨_, rfl⟩
                  refine lv_iinc (v := z_28) (lv' := [(4, .int z_28), (3, .int z_27), (5, .int z_7), (0, .ref r0), (1, .int a1), (2, .int a2)]) hx hb dX11_endOf_97 hl (k := 5) rfl (by rw [ez_28]; rfl) (by decide) rfl (fun ls hl => ?_)
                  have hz_28 : z_28.toInt = v4_1.toInt + 1 := by rw [ez_28]; exact jb_iadd2 (rfl) (by decide) (by omega)
                  refine lv_goto (tgt := 5) hx hb dX11_endOf_100 (by decide) ?_
                  exact L5 z_27 z_28 _ _ hh_1 (by first | omega | (refine ⟨?_, ?_, ?_, ?_⟩ <;> (first | omega | rfl | assumption | decide | exact Or.inl rfl | exact Or.inr rfl | (simp only; omega)))) (by omega) _ (lv_sub hl [3, 4, 5, 1, 0] rfl)
            · skip
              have c_8' : z_7.toInt ≥ 1 := jb_lt_n (rfl) ((by decide)) c_8
              refine lv_iload hx hb dX11_endOf_37 (lv_at hl 0 rfl) ?_
              refine lv_iconst (v := 4) hx hb dX11_endOf_39 (by decide) ?_
              refine lv_icmp_gt (tgt := 49) hx hb dX11_endOf_40 (by decide) (fun c_29 => ?_) (fun c_29 => ?_)
              · skip
                have c_29' : z_7.toInt > 4 := jb_gt (rfl) ((by decide)) c_29
                refine lv_iload hx hb dX11_endOf_49 (lv_at hl 0 rfl) ?_
                refine lv_bipush (v := 7) hx hb dX11_endOf_51 (by decide) ?_
                refine lv_icmp_eq (tgt := 63) hx hb dX11_endOf_53 (by decide) (fun c_30 => ?_) (fun c_30 => ?_)
                · skip
                  have c_30' : z_7.toInt = 7 := jb_eq (rfl) ((by decide)) c_30
                  refine lv_iload_n hx hb dX11_endOf_63 rfl (lv_at hl 4 rfl) ?_
                  refine lv_aload_n hx hb dX11_endOf_64 rfl (lv_at hl 1 rfl) ?_
                  refine lv_iload hx hb dX11_endOf_65 (lv_at hl 5 rfl) ?_
                  refine j7_iald hx hb hK hh_1 hB280 1 rfl (by decide) hg_r0 (x := v4_1.toInt) (rfl) (by omega) dX11_endOf_67 (fun z_31 (hz_31 : -1 ≤ z_31.toInt) => ?_)
                  refine lv_iconst (v := 4) hx hb dX11_endOf_68 (by decide) ?_
                  refine lv_ishr hx hb dX11_endOf_69 ?_
                  refine lv_topi (fun z_32 ez_32 => ?_)
                  have hz_32 : z_32.toInt = z_31.toInt / 2 ^ 4 := by rw [ez_32]; exact jb_ishr 4 (rfl) (by decide)
                  refine lv_sipush (v := 2047) hx hb dX11_endOf_70 (by decide) ?_
                  refine lv_iand hx hb dX11_endOf_73 ?_
                  refine lv_topi (fun z_33 ez_33 => ?_)
                  have hz_33 : 0 ≤ z_33.toInt ∧ z_33.toInt ≤ 2047 := by rw [ez_33]; exact jb_and z_32 (m := 2047) (k := 11) (by decide) (by decide)
                  refine lv_iconst (v := 1) hx hb dX11_endOf_74 (by decide) ?_
                  refine lv_isub hx hb dX11_endOf_75 ?_
                  refine lv_topi (fun z_34 ez_34 => ?_)
                  have hz_34 : z_34.toInt = z_33.toInt - 1 := by rw [ez_34]; exact jb_isub2 (rfl) ((by decide)) (by omega)
                  refine lv_iadd hx hb dX11_endOf_76 ?_
                  refine lv_topi (fun z_35 ez_35 => ?_)
                  have hz_35 : z_35.toInt = v3_1.toInt + z_34.toInt := by rw [ez_35]; exact jb_iadd2 (rfl) (rfl) (by omega)
                  refine lv_istore_n (lv' := [(3, .int z_35), (5, .int z_7), (0, .ref r0), (1, .int a1), (2, .int a2), (4, .int v4_1)]) hx hb dX11_endOf_77 rfl hl (by decide) rfl (fun ls hl => ?_)
                  refine lv_goto (tgt := 97) hx hb dX11_endOf_78 (by decide) ?_
                  obtain ⟨z_36, ez_36⟩ : ∃ y : Int32, y = v4_1 + 1 := ⟨_, rfl⟩
                  refine lv_iinc (v := z_36) (lv' := [(4, .int z_36), (3, .int z_35), (5, .int z_7), (0, .ref r0), (1, .int a1), (2, .int a2)]) hx hb dX11_endOf_97 hl (k := 5) rfl (by rw [ez_36]; rfl) (by decide) rfl (fun ls hl => ?_)
                  have hz_36 : z_36.toInt = v4_1.toInt + 1 := by rw [ez_36]; exact jb_iadd2 (rfl) (by decide) (by omega)
                  refine lv_goto (tgt := 5) hx hb dX11_endOf_100 (by decide) ?_
                  exact L5 z_35 z_36 _ _ hh_1 (by first | omega | (refine ⟨?_, ?_, ?_, ?_⟩ <;> (first | omega | rfl | assumption | decide | exact Or.inl rfl | exact Or.inr rfl | (simp only; omega)))) (by omega) _ (lv_sub hl [3, 4, 5, 1, 0] rfl)
                · skip
                  have c_30' : z_7.toInt ≠ 7 := jb_eq_n (rfl) ((by decide)) c_30
                  refine lv_iload hx hb dX11_endOf_56 (lv_at hl 0 rfl) ?_
                  refine lv_bipush (v := 8) hx hb dX11_endOf_58 (by decide) ?_
                  refine lv_icmp_ne (tgt := 81) hx hb dX11_endOf_60 (by decide) (fun c_37 => ?_) (fun c_37 => ?_)
                  · skip
                    have c_37' : z_7.toInt ≠ 8 := jb_ne (rfl) ((by decide)) c_37
                    refine lv_iload hx hb dX11_endOf_81 (lv_at hl 0 rfl) ?_
                    refine lv_iconst (v := 5) hx hb dX11_endOf_83 (by decide) ?_
                    refine lv_icmp_eq (tgt := 97) hx hb dX11_endOf_84 (by decide) (fun c_38 => ?_) (fun c_38 => ?_)
                    · skip
                      have c_38' : z_7.toInt = 5 := jb_eq (rfl) ((by decide)) c_38
                      obtain ⟨z_39, ez_39⟩ : ∃ y : Int32, y = v4_1 + 1 := ⟨_, rfl⟩
                      refine lv_iinc (v := z_39) (lv' := [(4, .int z_39), (5, .int z_7), (0, .ref r0), (1, .int a1), (2, .int a2), (3, .int v3_1)]) hx hb dX11_endOf_97 hl (k := 5) rfl (by rw [ez_39]; rfl) (by decide) rfl (fun ls hl => ?_)
                      have hz_39 : z_39.toInt = v4_1.toInt + 1 := by rw [ez_39]; exact jb_iadd2 (rfl) (by decide) (by omega)
                      refine lv_goto (tgt := 5) hx hb dX11_endOf_100 (by decide) ?_
                      exact L5 v3_1 z_39 _ _ hh_1 (by first | omega | (refine ⟨?_, ?_, ?_, ?_⟩ <;> (first | omega | rfl | assumption | decide | exact Or.inl rfl | exact Or.inr rfl | (simp only; omega)))) (by omega) _ (lv_sub hl [2, 3, 4, 5, 0] rfl)
                    · skip
                      have c_38' : z_7.toInt ≠ 5 := jb_eq_n (rfl) ((by decide)) c_38
                      refine lv_iload hx hb dX11_endOf_87 (lv_at hl 0 rfl) ?_
                      refine lv_bipush (v := 6) hx hb dX11_endOf_89 (by decide) ?_
                      refine lv_icmp_eq (tgt := 97) hx hb dX11_endOf_91 (by decide) (fun c_40 => ?_) (fun c_40 => ?_)
                      · skip
                        have c_40' : z_7.toInt = 6 := jb_eq (rfl) ((by decide)) c_40
                        obtain ⟨z_41, ez_41⟩ : ∃ y : Int32, y = v4_1 + 1 := ⟨_, rfl⟩
                        refine lv_iinc (v := z_41) (lv' := [(4, .int z_41), (5, .int z_7), (0, .ref r0), (1, .int a1), (2, .int a2), (3, .int v3_1)]) hx hb dX11_endOf_97 hl (k := 5) rfl (by rw [ez_41]; rfl) (by decide) rfl (fun ls hl => ?_)
                        have hz_41 : z_41.toInt = v4_1.toInt + 1 := by rw [ez_41]; exact jb_iadd2 (rfl) (by decide) (by omega)
                        refine lv_goto (tgt := 5) hx hb dX11_endOf_100 (by decide) ?_
                        exact L5 v3_1 z_41 _ _ hh_1 (by first | omega | (refine ⟨?_, ?_, ?_, ?_⟩ <;> (first | omega | rfl | assumption | decide | exact Or.inl rfl | exact Or.inr rfl | (simp only; omega)))) (by omega) _ (lv_sub hl [2, 3, 4, 5, 0] rfl)
                      · skip
                        have c_40' : z_7.toInt ≠ 6 := jb_eq_n (rfl) ((by decide)) c_40
                        obtain ⟨z_42, ez_42⟩ : ∃ y : Int32, y = v3_1 + (-1) := ⟨_, rfl⟩
                        refine lv_iinc (v := z_42) (lv' := [(3, .int z_42), (5, .int z_7), (0, .ref r0), (1, .int a1), (2, .int a2), (4, .int v4_1)]) hx hb dX11_endOf_94 hl (k := 4) rfl (by rw [ez_42]; rfl) (by decide) rfl (fun ls hl => ?_)
                        have hz_42 : z_42.toInt = v3_1.toInt + (-1) := by rw [ez_42]; exact jb_iadd2 (rfl) (by decide) (by omega)
                        obtain ⟨z_43, ez_43⟩ : ∃ y : Int32, y = v4_1 + 1 := ⟨_, rfl⟩
                        refine lv_iinc (v := z_43) (lv' := [(4, .int z_43), (3, .int z_42), (5, .int z_7), (0, .ref r0), (1, .int a1), (2, .int a2)]) hx hb dX11_endOf_97 hl (k := 5) rfl (by rw [ez_43]; rfl) (by decide) rfl (fun ls hl => ?_)
                        have hz_43 : z_43.toInt = v4_1.toInt + 1 := by rw [ez_43]; exact jb_iadd2 (rfl) (by decide) (by omega)
                        refine lv_goto (tgt := 5) hx hb dX11_endOf_100 (by decide) ?_
                        exact L5 z_42 z_43 _ _ hh_1 (by first | omega | (refine ⟨?_, ?_, ?_, ?_⟩ <;> (first | omega | rfl | assumption | decide | exact Or.inl rfl | exact Or.inr rfl | (simp only; omega)))) (by omega) _ (lv_sub hl [3, 4, 5, 1, 0] rfl)
                  · skip
                    have c_37' : z_7.toInt = 8 := jb_ne_n (rfl) ((by decide)) c_37
                    refine lv_iload_n hx hb dX11_endOf_63 rfl (lv_at hl 4 rfl) ?_
                    refine lv_aload_n hx hb dX11_endOf_64 rfl (lv_at hl 1 rfl) ?_
                    refine lv_iload hx hb dX11_endOf_65 (lv_at hl 5 rfl) ?_
                    refine j7_iald hx hb hK hh_1 hB280 1 rfl (by decide) hg_r0 (x := v4_1.toInt) (rfl) (by omega) dX11_endOf_67 (fun z_44 (hz_44 : -1 ≤ z_44.toInt) => ?_)
                    refine lv_iconst (v := 4) hx hb dX11_endOf_68 (by decide) ?_
                    refine lv_ishr hx hb dX11_endOf_69 ?_
                    refine lv_topi (fun z_45 ez_45 => ?_)
                    have hz_45 : z_45.toInt = z_44.toInt / 2 ^ 4 := by rw [ez_45]; exact jb_ishr 4 (rfl) (by decide)
                    refine lv_sipush (v := 2047) hx hb dX11_endOf_70 (by decide) ?_
                    refine lv_iand hx hb dX11_endOf_73 ?_
                    refine lv_topi (fun z_46 ez_46 => ?_)
                    have hz_46 : 0 ≤ z_46.toInt ∧ z_46.toInt ≤ 2047 := by rw [ez_46]; exact jb_and z_45 (m := 2047) (k := 11) (by decide) (by decide)
                    refine lv_iconst (v := 1) hx hb dX11_endOf_74 (by decide) ?_
                    refine lv_isub hx hb dX11_endOf_75 ?_
                    refine lv_topi (fun z_47 ez_47 => ?_)
                    have hz_47 : z_47.toInt = z_46.toInt - 1 := by rw [ez_47]; exact jb_isub2 (rfl) ((by decide)) (by omega)
                    refine lv_iadd hx hb dX11_endOf_76 ?_
                    refine lv_topi (fun z_48 ez_48 => ?_)
                    have hz_48 : z_48.toInt = v3_1.toInt + z_47.toInt := by rw [ez_48]; exact jb_iadd2 (rfl) (rfl) (by omega)
                    refine lv_istore_n (lv' := [(3, .int z_48), (5, .int z_7), (0, .ref r0), (1, .int a1), (2, .int a2), (4, .int v4_1)]) hx hb dX11_endOf_77 rfl hl (by decide) rfl (fun ls hl => ?_)
                    refine lv_goto (tgt := 97) hx hb dX11_endOf_78 (by decide) ?_
                    obtain ⟨z_49, ez_49⟩ : ∃ y : Int32, y = v4_1 + 1 := ⟨_, rfl⟩
                    refine lv_iinc (v := z_49) (lv' := [(4, .int z_49), (3, .int z_48), (5, .int z_7), (0, .ref r0), (1, .int a1), (2, .int a2)]) hx hb dX11_endOf_97 hl (k := 5) rfl (by rw [ez_49]; rfl) (by decide) rfl (fun ls hl => ?_)
                    have hz_49 : z_49.toInt = v4_1.toInt + 1 := by rw [ez_49]; exact jb_iadd2 (rfl) (by decide) (by omega)
                    refine lv_goto (tgt := 5) hx hb dX11_endOf_100 (by decide) ?_
                    exact L5 z_48 z_49 _ _ hh_1 (by first | omega | (refine ⟨?_, ?_, ?_, ?_⟩ <;> (first | omega | rfl | assumption | decide | exact Or.inl rfl | exact Or.inr rfl | (simp only; omega)))) (by omega) _ (lv_sub hl [3, 4, 5, 1, 0] rfl)
              · skip
                have c_29' : z_7.toInt ≤ 4 := jb_gt_n (rfl) ((by decide)) c_29
                obtain ⟨z_50, ez_50⟩ : ∃ y : Int32, y = v3_1 + 1 := ⟨_, rfl⟩
                refine lv_iinc (v := z_50) (lv' := [(3, .int z_50), (5, .int z_7), (0, .ref r0), (1, .int a1), (2, .int a2), (4, .int v4_1)]) hx hb dX11_endOf_43 hl (k := 4) rfl (by rw [ez_50]; rfl) (by decide) rfl (fun ls hl => ?_)
                have hz_50 : z_50.toInt = v3_1.toInt + 1 := by rw [ez_50]; exact jb_iadd2 (rfl) (by decide) (by omega)
                refine lv_goto (tgt := 97) hx hb dX11_endOf_46 (by decide) ?_
                obtain ⟨z_51, ez_51⟩ : ∃ y : Int32, y = v4_1 + 1 := ⟨_, rfl⟩
                refine lv_iinc (v := z_51) (lv' := [(4, .int z_51), (3, .int z_50), (5, .int z_7), (0, .ref r0), (1, .int a1), (2, .int a2)]) hx hb dX11_endOf_97 hl (k := 5) rfl (by rw [ez_51]; rfl) (by decide) rfl (fun ls hl => ?_)
                have hz_51 : z_51.toInt = v4_1.toInt + 1 := by rw [ez_51]; exact jb_iadd2 (rfl) (by decide) (by omega)
                refine lv_goto (tgt := 5) hx hb dX11_endOf_100 (by decide) ?_
                exact L5 z_50 z_51 _ _ hh_1 (by first | omega | (refine ⟨?_, ?_, ?_, ?_⟩ <;> (first | omega | rfl | assumption | decide | exact Or.inl rfl | exact Or.inr rfl | (simp only; omega)))) (by omega) _ (lv_sub hl [3, 4, 5, 1, 0] rfl)
  exact L5 (((n0 - (a1 : Int32).toInt).toNat : Int) : Int).toNat.succ 1 a1 _ _ hh (by first | omega | (refine ⟨?_, ?_, ?_, ?_⟩ <;> (first | omega | rfl | assumption | decide | exact Or.inl rfl | exact Or.inr rfl | (simp only; omega)))) (by omega) _ (lv_sub hl [2, 3, 4, 1, 0] rfl)
set_option maxHeartbeats 4000000 in
set_option maxRecDepth 20000 in
theorem uX5_standsAtB (l : Launch) (dC : Nat → ClassId) (dI : Nat → Nat → Nat) (ca : Nat → ClassId) (base : Nat) (B : jF) (hB : jBok B) (hAp : jAp (dC, dI)) (hB280 : ∀ n G a H, B 280 n G a H ↔ jAr (dC, dI) (ca 1) (fun j z => -1 ≤ z.toInt) n a H) (G0 : jT) (H0 : Heap) (r0 : Nat) (a1 : Int32) (r2 : Nat) (a3 : Int32) (a4 : Int32) (n0 : Nat) (n2 : Nat) : Met l yX5_standsAt (jw yX5_standsAt cX5_standsAt 6 (some .boolean)) ({ frames := 0, cells := 0, slots := 0, locals := 0 }) (va_Pc [.ref r0, .int a1, .ref r2, .int a3, .int a4] (fun U => U.heap = H0 ∧ jX B base G0 [] H0 ∧ jG dC dI ca base U ∧ G0 r0 = some (280, n0) ∧ G0 r2 = some (280, n2) ∧ jP (dC, dI) G0 H0 [] ∧ n0 ≤ 100000 ∧ n2 ≤ 100000 ∧ a1.toInt ≤ 100000 ∧ a3.toInt ≤ 100000 ∧ a4.toInt ≤ 1000000)) (va_Qi (S := Unit) (fun r u => (r = 0 ∨ r = 1) ∧ (True)) (fun u t => jRt (dC, dI) B base G0 EX5_standsAtB H0 [] t.heap) (jA base)) 0 0 (jA base) := by
  refine Met.ofW (cc := cX5_standsAt) (maxL := 6) (ret := (some .boolean)) (by decide) rfl ?_
  intro p e s m args below meth c s₁ Bd hml hv
  obtain ⟨rfl, hH0, hX, hG, hg_r0, hg_r2, hP0, hp0, hp1, hp2, hp3, hp4⟩ := hv
  have hK := hG.1
  have hx := Bd.exec
  have hb := Bd.bytes
  have hr := Bd.returns
  have hts := atoms_spec (ws := (jw yX5_standsAt cX5_standsAt 6 (some .boolean))) Bd.pre
  have htw : ∀ w ∈ jWl, w.before _ s = true := fun w h => hts w (List.mem_cons_of_mem _ h)
  have hown : s.vm.findClass RX5 = some m.cls := findClass_of_methodNamed Bd.named
  have hlocks := Bd.notSynchronized
  obtain ⟨Q, hQ⟩ : ∃ Q, Q = MQ below (va_Qi (S := Unit) (fun r u => (r = 0 ∨ r = 1) ∧ (True)) (fun u t => jRt (dC, dI) B base G0 EX5_standsAtB H0 [] t.heap) (jA base)) ([.ref r0, .int a1, .ref r2, .int a3, .int a4] : List Value).toArray s 0 0 (jA base) := ⟨_, rfl⟩
  rw [← hQ]
  have hl := lv_entry ([.ref r0, .int a1, .ref r2, .int a3, .int a4]) (n := 6) (Nat.le_of_ble_eq_true rfl)
  rw [lg_entry_eq]
  generalize (lg_sl ([.ref r0, .int a1, .ref r2, .int a3, .int a4]) ++ List.replicate (6 - (lg_sl ([.ref r0, .int a1, .ref r2, .int a3, .int a4])).length) Slot.unset).toArray = ls at hl ⊢
  have hl : lv_has ls 6 [(0, .ref r0), (1, .int a1), (2, .ref r2), (3, .int a3), (4, .int a4)] := hl
  generalize hR : (headSpec (jw yX5_standsAt cX5_standsAt 6 (some .boolean)) ({ frames := 0, cells := 0, slots := 0, locals := 0 })).room = R
  subst hH0
  have hh : jSt (dC, dI) B base G0 G0 EX5_standsAtB s.heap 0 0 [] [] [] s.heap [] := jSt.start hX hP0 jMc.nil jIs.nil
  clear hX hP0
  have hk0 : (0 : Int32).toInt = 0 := by decide
  have hk1 : (1 : Int32).toInt = 1 := by decide
  have hrg_a1 := jb_rng a1
  have hrg_a3 := jb_rng a3
  have hrg_a4 := jb_rng a4
  refine lv_iload_n hx hb dX5_standsAt_0 rfl (lv_at hl 1 rfl) ?_
  refine lv_if_lt (tgt := 26) hx hb dX5_standsAt_1 (by decide) (fun c_1 => ?_) (fun c_1 => ?_)
  · skip
    have c_1' : a1.toInt < 0 := jb_lt (rfl) ((by decide)) c_1
    refine lv_iconst (v := 0) hx hb dX5_standsAt_26 (by decide) ?_
    rw [hQ]
    exact W.zret (v := 0) hx hb hr (jb_nz (Or.inl rfl)) (fun t ht hW => ⟨⟨0, (), rfl, ⟨(Or.inl rfl), trivial⟩, hh.rt (M1 := []) [] rfl ht⟩, by rw [ht]; try exact hh.1.1, fun q h9 hq => by rw [ht]; try exact hh.1.2.1 q h9 hq⟩) hh.1.2.2 dX5_standsAt_27
  · skip
    have c_1' : a1.toInt ≥ 0 := jb_lt_n (rfl) ((by decide)) c_1
    refine lv_iload_n hx hb dX5_standsAt_4 rfl (lv_at hl 3 rfl) ?_
    refine lv_if_lt (tgt := 26) hx hb dX5_standsAt_5 (by decide) (fun c_2 => ?_) (fun c_2 => ?_)
    · skip
      have c_2' : a3.toInt < 0 := jb_lt (rfl) ((by decide)) c_2
      refine lv_iconst (v := 0) hx hb dX5_standsAt_26 (by decide) ?_
      rw [hQ]
      exact W.zret (v := 0) hx hb hr (jb_nz (Or.inl rfl)) (fun t ht hW => ⟨⟨0, (), rfl, ⟨(Or.inl rfl), trivial⟩, hh.rt (M1 := []) [] rfl ht⟩, by rw [ht]; try exact hh.1.1, fun q h9 hq => by rw [ht]; try exact hh.1.2.1 q h9 hq⟩) hh.1.2.2 dX5_standsAt_27
    · skip
      have c_2' : a3.toInt ≥ 0 := jb_lt_n (rfl) ((by decide)) c_2
      refine lv_iload_n hx hb dX5_standsAt_8 rfl (lv_at hl 1 rfl) ?_
      refine lv_iload hx hb dX5_standsAt_9 (lv_at hl 4 rfl) ?_
      refine lv_iadd hx hb dX5_standsAt_11 ?_
      refine lv_topi (fun z_3 ez_3 => ?_)
      have hz_3 : z_3.toInt = a1.toInt + a4.toInt := by rw [ez_3]; exact jb_iadd2 (rfl) (rfl) (by omega)
      refine lv_aload_n hx hb dX5_standsAt_12 rfl (lv_at hl 0 rfl) ?_
      refine j7_len hx hb hK hh hB280 1 rfl (by decide) hg_r0 (by omega) dX5_standsAt_13 (fun z_4 hz_4 => ?_)
      refine lv_icmp_gt (tgt := 26) hx hb dX5_standsAt_14 (by decide) (fun c_5 => ?_) (fun c_5 => ?_)
      · skip
        have c_5' : z_3.toInt > z_4.toInt := jb_gt (rfl) (rfl) c_5
        refine lv_iconst (v := 0) hx hb dX5_standsAt_26 (by decide) ?_
        rw [hQ]
        exact W.zret (v := 0) hx hb hr (jb_nz (Or.inl rfl)) (fun t ht hW => ⟨⟨0, (), rfl, ⟨(Or.inl rfl), trivial⟩, hh.rt (M1 := []) [] rfl ht⟩, by rw [ht]; try exact hh.1.1, fun q h9 hq => by rw [ht]; try exact hh.1.2.1 q h9 hq⟩) hh.1.2.2 dX5_standsAt_27
      · skip
        have c_5' : z_3.toInt ≤ z_4.toInt := jb_gt_n (rfl) (rfl) c_5
        refine lv_iload_n hx hb dX5_standsAt_17 rfl (lv_at hl 3 rfl) ?_
        refine lv_iload hx hb dX5_standsAt_18 (lv_at hl 4 rfl) ?_
        refine lv_iadd hx hb dX5_standsAt_20 ?_
        refine lv_topi (fun z_6 ez_6 => ?_)
        have hz_6 : z_6.toInt = a3.toInt + a4.toInt := by rw [ez_6]; exact jb_iadd2 (rfl) (rfl) (by omega)
        refine lv_aload_n hx hb dX5_standsAt_21 rfl (lv_at hl 2 rfl) ?_
        refine j7_len hx hb hK hh hB280 1 rfl (by decide) hg_r2 (by omega) dX5_standsAt_22 (fun z_7 hz_7 => ?_)
        refine lv_icmp_le (tgt := 28) hx hb dX5_standsAt_23 (by decide) (fun c_8 => ?_) (fun c_8 => ?_)
        · skip
          have c_8' : z_6.toInt ≤ z_7.toInt := jb_le (rfl) (rfl) c_8
          refine lv_iconst (v := 0) hx hb dX5_standsAt_28 (by decide) ?_
          refine lv_istore (lv' := [(5, .int 0), (0, .ref r0), (1, .int a1), (2, .ref r2), (3, .int a3), (4, .int a4)]) hx hb dX5_standsAt_29 hl (by decide) rfl (fun ls hl => ?_)
          have L31 : ∀ (N : Nat) (v5_9 : Int32) (H_9 : Heap) (locs_9 : List Loc), jSt (dC, dI) B base G0 G0 EX5_standsAtB s.heap 0 0 [] [] [] H_9 locs_9 → (0 ≤ v5_9.toInt) → (((a4.toInt - v5_9.toInt).toNat : Int) : Int) < N → ∀ ls : Array Slot, lv_has ls 6 [(0, .ref r0), (1, .int a1), (2, .ref r2), (3, .int a3), (4, .int a4), (5, .int v5_9)] → W p l e R s m ([.ref r0, .int a1, .ref r2, .int a3, .int a4] : List Value).toArray below meth c H_9 locs_9 0 0 Q (F0 m 31 ls []) := by
            intro N
            induction N with
            | zero => intro v5_9 H_9 locs_9 hh_9  hi_9 hm; exact absurd hm (by omega)
            | succ N L31 =>
              intro v5_9 H_9 locs_9 hh_9  hi_9 hm_9 ls hl
              refine lv_iload hx hb dX5_standsAt_31 (lv_at hl 5 rfl) ?_
              refine lv_iload hx hb dX5_standsAt_33 (lv_at hl 4 rfl) ?_
              refine lv_icmp_ge (tgt := 61) hx hb dX5_standsAt_35 (by decide) (fun c_10 => ?_) (fun c_10 => ?_)
              · skip
                have c_10' : v5_9.toInt ≥ a4.toInt := jb_ge (rfl) (rfl) c_10
                refine lv_iconst (v := 1) hx hb dX5_standsAt_61 (by decide) ?_
                rw [hQ]
                exact W.zret (v := 1) hx hb hr (jb_nz (Or.inr rfl)) (fun t ht hW => ⟨⟨1, (), rfl, ⟨(Or.inr rfl), trivial⟩, hh_9.rt (M1 := []) [] rfl ht⟩, by rw [ht]; try exact hh_9.1.1, fun q h9 hq => by rw [ht]; try exact hh_9.1.2.1 q h9 hq⟩) hh_9.1.2.2 dX5_standsAt_62
              · skip
                have c_10' : v5_9.toInt < a4.toInt := jb_ge_n (rfl) (rfl) c_10
                refine lv_aload_n hx hb dX5_standsAt_38 rfl (lv_at hl 0 rfl) ?_
                refine lv_iload_n hx hb dX5_standsAt_39 rfl (lv_at hl 1 rfl) ?_
                refine lv_iload hx hb dX5_standsAt_40 (lv_at hl 5 rfl) ?_
                refine lv_iadd hx hb dX5_standsAt_42 ?_
                refine lv_topi (fun z_11 ez_11 => ?_)
                have hz_11 : z_11.toInt = a1.toInt + v5_9.toInt := by rw [ez_11]; exact jb_iadd2 (rfl) (rfl) (by omega)
                refine j7_iald hx hb hK hh_9 hB280 1 rfl (by decide) hg_r0 (x := z_11.toInt) (rfl) (by omega) dX5_standsAt_43 (fun z_12 (hz_12 : -1 ≤ z_12.toInt) => ?_)
                refine lv_aload_n hx hb dX5_standsAt_44 rfl (lv_at hl 2 rfl) ?_
                refine lv_iload_n hx hb dX5_standsAt_45 rfl (lv_at hl 3 rfl) ?_
                refine lv_iload hx hb dX5_standsAt_46 (lv_at hl 5 rfl) ?_
                refine lv_iadd hx hb dX5_standsAt_48 ?_
                refine lv_topi (fun z_13 ez_13 => ?_)
                have hz_13 : z_13.toInt = a3.toInt + v5_9.toInt := by rw [ez_13]; exact jb_iadd2 (rfl) (rfl) (by omega)
                refine j7_iald hx hb hK hh_9 hB280 1 rfl (by decide) hg_r2 (x := z_13.toInt) (rfl) (by omega) dX5_standsAt_49 (fun z_14 (hz_14 : -1 ≤ z_14.toInt) => ?_)
                refine lv_icmp_eq (tgt := 55) hx hb dX5_standsAt_50 (by decide) (fun c_15 => ?_) (fun c_15 => ?_)
                · skip
                  have c_15' : z_12.toInt = z_14.toInt := jb_eq (rfl) (rfl) c_15
                  obtain ⟨z_16, ez_16⟩ : ∃ y : Int32, y = v5_9 + 1 := ⟨_, rfl⟩
                  refine lv_iinc (v := z_16) (lv' := [(5, .int z_16), (0, .ref r0), (1, .int a1), (2, .ref r2), (3, .int a3), (4, .int a4)]) hx hb dX5_standsAt_55 hl (k := 5) rfl (by rw [ez_16]; rfl) (by decide) rfl (fun ls hl => ?_)
                  have hz_16 : z_16.toInt = v5_9.toInt + 1 := by rw [ez_16]; exact jb_iadd2 (rfl) (by decide) (by omega)
                  refine lv_goto (tgt := 31) hx hb dX5_standsAt_58 (by decide) ?_
                  exact L31 z_16 _ _ hh_9 (by first | omega | rfl | assumption | decide | exact Or.inl rfl | exact Or.inr rfl | (simp only; omega)) (by omega) _ (lv_sub hl [1, 2, 3, 4, 5, 0] rfl)
                · skip
                  have c_15' : z_12.toInt ≠ z_14.toInt := jb_eq_n (rfl) (rfl) c_15
                  refine lv_iconst (v := 0) hx hb dX5_standsAt_53 (by decide) ?_
                  rw [hQ]
                  exact W.zret (v := 0) hx hb hr (jb_nz (Or.inl rfl)) (fun t ht hW => ⟨⟨0, (), rfl, ⟨(Or.inl rfl), trivial⟩, hh_9.rt (M1 := []) [] rfl ht⟩, by rw [ht]; try exact hh_9.1.1, fun q h9 hq => by rw [ht]; try exact hh_9.1.2.1 q h9 hq⟩) hh_9.1.2.2 dX5_standsAt_54
          exact L31 (((a4.toInt - (0 : Int32).toInt).toNat : Int) : Int).toNat.succ 0 _ _ hh (by first | omega | rfl | assumption | decide | exact Or.inl rfl | exact Or.inr rfl | (simp only; omega)) (by omega) _ (lv_sub hl [1, 2, 3, 4, 5, 0] rfl)
        · skip
          have c_8' : z_6.toInt > z_7.toInt := jb_le_n (rfl) (rfl) c_8
          refine lv_iconst (v := 0) hx hb dX5_standsAt_26 (by decide) ?_
          rw [hQ]
          exact W.zret (v := 0) hx hb hr (jb_nz (Or.inl rfl)) (fun t ht hW => ⟨⟨0, (), rfl, ⟨(Or.inl rfl), trivial⟩, hh.rt (M1 := []) [] rfl ht⟩, by rw [ht]; try exact hh.1.1, fun q h9 hq => by rw [ht]; try exact hh.1.2.1 q h9 hq⟩) hh.1.2.2 dX5_standsAt_27
