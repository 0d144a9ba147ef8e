section
def EX2_isInValueF : List (Nat × Nat) := [(4, 5)]
def EX2_isInLengthF : List (Nat × Nat) := [(4, 5), (4, 6), (4, 10), (4, 11)]
def EX2_isInNameF : List (Nat × Nat) := [(4, 5), (4, 8), (4, 9), (4, 10), (4, 11)]
def EX2_isLineBeginF : List (Nat × Nat) := [(4, 5), (4, 8), (4, 9), (4, 10), (4, 11)]
def EX2_isHeaderF : List (Nat × Nat) := [(4, 5), (4, 6), (4, 8), (4, 9), (4, 10), (4, 11)]
def EX2_acceptF : List (Nat × Nat) := [(4, 1), (4, 2), (4, 3), (4, 4), (4, 5), (4, 6), (4, 7), (4, 8), (4, 9), (4, 10), (4, 11), (100, 0)]
set_option maxHeartbeats 4000000 in
set_option maxRecDepth 20000 in
theorem uX2_isInValueF (l : Launch) (dC : Nat → ClassId) (dI : Nat → Nat → Nat) (ca : Nat → ClassId) (base : Nat) (B : jF) (hB : jBok B) (hAp : jAp (dC, dI)) (hB4 : ∀ n G a H, B 4 n G a H ↔ jOb (dC, dI) 4 12 (F4 n G) a H) (G0 : jT) (H0 : Heap) (r0 : Nat) (a1 : Int32) (pl : Int32) (to : Int32) (ke : Int32) (sg : Int32) (il : Int32) (dg : Int32) (sv : Int32) (fi : Int32) : Met l yX2_isInValue (jw yX2_isInValue cX2_isInValue 2 (some .boolean)) ({ frames := 0, cells := 0, slots := 0, locals := 0 }) (va_Pc [.ref r0, .int a1] (fun U => U.heap = H0 ∧ jX B base G0 [] H0 ∧ jG dC dI ca base U ∧ G0 r0 = some (4, 0) ∧ jP (dC, dI) G0 H0 [(r0, 4, 5, .int pl), (r0, 4, 6, .int to), (r0, 4, 2, .int ke), (r0, 4, 8, .int sg), (r0, 4, 9, .int il), (r0, 4, 10, .int dg), (r0, 4, 11, .int sv), (r0, 4, 7, .int fi)] ∧ True)) (va_Qi (S := Int32) (fun r u => (r = 0 ∨ r = 1) ∧ (jfIv (jfV 1 pl.toInt to.toInt ke.toInt sg.toInt il.toInt dg.toInt sv.toInt fi.toInt) a1.toInt = jfV r.toInt u.toInt to.toInt ke.toInt sg.toInt il.toInt dg.toInt sv.toInt fi.toInt ∧ (u.toInt = pl.toInt ∨ u.toInt = 4))) (fun u t => jRt (dC, dI) B base G0 EX2_isInValueF H0 [(r0, 4, 5, .int u)] t.heap) (jA base)) 0 0 (jA base) := by
  refine Met.ofW (cc := cX2_isInValue) (maxL := 2) (ret := (some .boolean)) (by decide) rfl ?_
  intro p e s m args below meth c s₁ Bd hml hv
  obtain ⟨rfl, hH0, hX, hG, hg_r0, hP0, hp0⟩ := hv
  have hK := hG.1
  have hx := Bd.exec
  have hb := Bd.bytes
  have hr := Bd.returns
  have hts := atoms_spec (ws := (jw yX2_isInValue cX2_isInValue 2 (some .boolean))) Bd.pre
  have htw : ∀ w ∈ jWl, w.before _ s = true := fun w h => hts w (List.mem_cons_of_mem _ h)
  have hown : s.vm.findClass RX2 = some m.cls := findClass_of_methodNamed Bd.named
  have hlocks := Bd.notSynchronized
  obtain ⟨Q, hQ⟩ : ∃ Q, Q = MQ below (va_Qi (S := Int32) (fun r u => (r = 0 ∨ r = 1) ∧ (jfIv (jfV 1 pl.toInt to.toInt ke.toInt sg.toInt il.toInt dg.toInt sv.toInt fi.toInt) a1.toInt = jfV r.toInt u.toInt to.toInt ke.toInt sg.toInt il.toInt dg.toInt sv.toInt fi.toInt ∧ (u.toInt = pl.toInt ∨ u.toInt = 4))) (fun u t => jRt (dC, dI) B base G0 EX2_isInValueF H0 [(r0, 4, 5, .int u)] t.heap) (jA base)) ([.ref r0, .int a1] : List Value).toArray s 0 0 (jA base) := ⟨_, rfl⟩
  rw [← hQ]
  have hl := lv_entry ([.ref r0, .int a1]) (n := 2) (Nat.le_of_ble_eq_true rfl)
  rw [lg_entry_eq]
  generalize (lg_sl ([.ref r0, .int a1]) ++ List.replicate (2 - (lg_sl ([.ref r0, .int a1])).length) Slot.unset).toArray = ls at hl ⊢
  have hl : lv_has ls 2 [(0, .ref r0), (1, .int a1)] := hl
  generalize hR : (headSpec (jw yX2_isInValue cX2_isInValue 2 (some .boolean)) ({ frames := 0, cells := 0, slots := 0, locals := 0 })).room = R
  subst hH0
  have hh : jSt (dC, dI) B base G0 G0 EX2_isInValueF s.heap 0 0 [(r0, 4, 5, .int pl), (r0, 4, 6, .int to), (r0, 4, 2, .int ke), (r0, 4, 8, .int sg), (r0, 4, 9, .int il), (r0, 4, 10, .int dg), (r0, 4, 11, .int sv), (r0, 4, 7, .int fi)] [] [] s.heap [] := jSt.start hX hP0 jMc.nil jIs.nil
  clear hX hP0
  have hk0 : (0 : Int32).toInt = 0 := by decide
  have hk1 : (1 : Int32).toInt = 1 := by decide
  have hk4 : (4 : Int32).toInt = 4 := by decide
  have hk13 : (13 : Int32).toInt = 13 := by decide
  have hk32 : (32 : Int32).toInt = 32 := by decide
  have hk126 : (126 : Int32).toInt = 126 := by decide
  have hly_4_5 := htw (u_lay RX2 TX2 5) (jWc_wsX20 _ (u_in_lay (by decide)))
  have hlk_15 := (htw (.fieldLink RX2 15 "ProofServer$Frames" "place" "I") (jWr_3 _ (List.mem_of_getElem? (i := 15) rfl)))
  have hrg_a1 := jb_rng a1
  refine lv_iload_n hx hb dX2_isInValue_0 rfl (lv_at hl 1 rfl) ?_
  refine lv_bipush (v := 13) hx hb dX2_isInValue_1 (by decide) ?_
  refine lv_icmp_ne (tgt := 13) hx hb dX2_isInValue_3 (by decide) (fun c_1 => ?_) (fun c_1 => ?_)
  · skip
    have c_1' : a1.toInt ≠ 13 := jb_ne (rfl) ((by decide)) c_1
    refine lv_iload_n hx hb dX2_isInValue_13 rfl (lv_at hl 1 rfl) ?_
    refine lv_bipush (v := 32) hx hb dX2_isInValue_14 (by decide) ?_
    refine lv_icmp_lt (tgt := 29) hx hb dX2_isInValue_16 (by decide) (fun c_2 => ?_) (fun c_2 => ?_)
    · skip
      have c_2' : a1.toInt < 32 := jb_lt (rfl) ((by decide)) c_2
      refine lv_iconst (v := 0) hx hb dX2_isInValue_29 (by decide) ?_
      rw [hQ]
      exact W.zret (v := 0) hx hb hr (jb_nz (Or.inl rfl)) (fun t ht hW => ⟨⟨0, pl, rfl, ⟨(Or.inl rfl), by (try dsimp only); refine ⟨?_, by omega⟩; exact jfIv_n (by omega) (by omega)⟩, hh.rt (M1 := [(r0, 4, 5, .int pl)]) [0] rfl ht⟩, by rw [ht]; try exact hh.1.1, fun q h9 hq => by rw [ht]; try exact hh.1.2.1 q h9 hq⟩) hh.1.2.2 dX2_isInValue_30
    · skip
      have c_2' : a1.toInt ≥ 32 := jb_lt_n (rfl) ((by decide)) c_2
      refine lv_iload_n hx hb dX2_isInValue_19 rfl (lv_at hl 1 rfl) ?_
      refine lv_bipush (v := 126) hx hb dX2_isInValue_20 (by decide) ?_
      refine lv_icmp_gt (tgt := 29) hx hb dX2_isInValue_22 (by decide) (fun c_3 => ?_) (fun c_3 => ?_)
      · skip
        have c_3' : a1.toInt > 126 := jb_gt (rfl) ((by decide)) c_3
        refine lv_iconst (v := 0) hx hb dX2_isInValue_29 (by decide) ?_
        rw [hQ]
        exact W.zret (v := 0) hx hb hr (jb_nz (Or.inl rfl)) (fun t ht hW => ⟨⟨0, pl, rfl, ⟨(Or.inl rfl), by (try dsimp only); refine ⟨?_, by omega⟩; exact jfIv_n (by omega) (by omega)⟩, hh.rt (M1 := [(r0, 4, 5, .int pl)]) [0] rfl ht⟩, by rw [ht]; try exact hh.1.1, fun q h9 hq => by rw [ht]; try exact hh.1.2.1 q h9 hq⟩) hh.1.2.2 dX2_isInValue_30
      · skip
        have c_3' : a1.toInt ≤ 126 := jb_gt_n (rfl) ((by decide)) c_3
        refine lv_iconst (v := 1) hx hb dX2_isInValue_25 (by decide) ?_
        refine lv_goto (tgt := 30) hx hb dX2_isInValue_26 (by decide) ?_
        rw [hQ]
        exact W.zret (v := 1) hx hb hr (jb_nz (Or.inr rfl)) (fun t ht hW => ⟨⟨1, pl, rfl, ⟨(Or.inr rfl), by (try dsimp only); refine ⟨?_, by omega⟩; exact jfIv_n (by omega) (by omega)⟩, hh.rt (M1 := [(r0, 4, 5, .int pl)]) [0] rfl ht⟩, by rw [ht]; try exact hh.1.1, fun q h9 hq => by rw [ht]; try exact hh.1.2.1 q h9 hq⟩) hh.1.2.2 dX2_isInValue_30
  · skip
    have c_1' : a1.toInt = 13 := jb_ne_n (rfl) ((by decide)) c_1
    refine lv_aload_n hx hb dX2_isInValue_6 rfl (lv_at hl 0 rfl) ?_
    refine lv_iconst (v := 4) hx hb dX2_isInValue_7 (by decide) ?_
    refine j7_put hx hb hown hK hh hB hAp hB4 (C := RX2) (T := TX2) (N := 12) rfl (by decide) hg_r0 (i := 5) (by decide) hly_4_5 rfl hlk_15 rfl (ty := .int) (v := .int 4) (by decide +kernel) rfl rfl (⟨_, rfl⟩) rfl (L1 := [(r0, 4, 6, .int to), (r0, 4, 2, .int ke), (r0, 4, 8, .int sg), (r0, 4, 9, .int il), (r0, 4, 10, .int dg), (r0, 4, 11, .int sv), (r0, 4, 7, .int fi)]) [1, 2, 3, 4, 5, 6, 7] rfl rfl rfl dX2_isInValue_8 (fun H_4 locs_4 hh_4 => ?_)
    clear hh
    refine lv_iconst (v := 1) hx hb dX2_isInValue_11 (by decide) ?_
    rw [hQ]
    exact W.zret (v := 1) hx hb hr (jb_nz (Or.inr rfl)) (fun t ht hW => ⟨⟨1, 4, rfl, ⟨(Or.inr rfl), by (try dsimp only); refine ⟨?_, by omega⟩; exact jfIv_r (by omega) (by omega) (by omega)⟩, hh_4.rt (M1 := [(r0, 4, 5, .int 4)]) [0] rfl ht⟩, by rw [ht]; try exact hh_4.1.1, fun q h9 hq => by rw [ht]; try exact hh_4.1.2.1 q h9 hq⟩) hh_4.1.2.2 dX2_isInValue_12
set_option maxHeartbeats 4000000 in
set_option maxRecDepth 20000 in
theorem uX2_isInLengthF (l : Launch) (dC : Nat → ClassId) (dI : Nat → Nat → Nat) (ca : Nat → ClassId) (base : Nat) (B : jF) (hB : jBok B) (hAp : jAp (dC, dI)) (hB4 : ∀ n G a H, B 4 n G a H ↔ jOb (dC, dI) 4 12 (F4 n G) a H) (G0 : jT) (H0 : Heap) (r0 : Nat) (a1 : Int32) (pl : Int32) (to : Int32) (ke : Int32) (sg : Int32) (il : Int32) (dg : Int32) (sv : Int32) (fi : Int32) : Met l yX2_isInLength (jw yX2_isInLength cX2_isInLength 2 (some .boolean)) ({ frames := 0, cells := 0, slots := 0, locals := 0 }) (va_Pc [.ref r0, .int a1] (fun U => U.heap = H0 ∧ jX B base G0 [] H0 ∧ jG dC dI ca base U ∧ G0 r0 = some (4, 0) ∧ jP (dC, dI) G0 H0 [(r0, 4, 5, .int pl), (r0, 4, 6, .int to), (r0, 4, 2, .int ke), (r0, 4, 8, .int sg), (r0, 4, 9, .int il), (r0, 4, 10, .int dg), (r0, 4, 11, .int sv), (r0, 4, 7, .int fi)] ∧ 0 ≤ sv.toInt ∧ sv.toInt ≤ 3000 ∧ 0 ≤ dg.toInt ∧ dg.toInt ≤ 4 ∧ 0 ≤ a1.toInt ∧ a1.toInt ≤ 255)) (va_Qi (S := Int32 × Int32 × Int32 × Int32) (fun r u => (r = 0 ∨ r = 1) ∧ (jfIl (jfV 1 pl.toInt to.toInt ke.toInt sg.toInt il.toInt dg.toInt sv.toInt fi.toInt) a1.toInt = jfV r.toInt u.1.toInt u.2.1.toInt ke.toInt sg.toInt il.toInt u.2.2.1.toInt u.2.2.2.toInt fi.toInt ∧ 0 ≤ u.2.2.2.toInt ∧ u.2.2.2.toInt ≤ 3000 + 100000 * (1 - r.toInt) ∧ 0 ≤ u.2.2.1.toInt ∧ u.2.2.1.toInt ≤ 4 + (1 - r.toInt) ∧ (u.2.1.toInt = to.toInt ∨ u.2.1.toInt = sv.toInt) ∧ (u.1.toInt = pl.toInt ∨ u.1.toInt = 4))) (fun u t => jRt (dC, dI) B base G0 EX2_isInLengthF H0 [(r0, 4, 5, .int u.1), (r0, 4, 6, .int u.2.1), (r0, 4, 10, .int u.2.2.1), (r0, 4, 11, .int u.2.2.2)] t.heap) (jA base)) 0 0 (jA base) := by
  refine Met.ofW (cc := cX2_isInLength) (maxL := 2) (ret := (some .boolean)) (by decide) rfl ?_
  intro p e s m args below meth c s₁ Bd hml hv
  obtain ⟨rfl, hH0, hX, hG, hg_r0, hP0, hp0, hp1, hp2, hp3, hp4, hp5⟩ := hv
  have hK := hG.1
  have hx := Bd.exec
  have hb := Bd.bytes
  have hr := Bd.returns
  have hts := atoms_spec (ws := (jw yX2_isInLength cX2_isInLength 2 (some .boolean))) Bd.pre
  have htw : ∀ w ∈ jWl, w.before _ s = true := fun w h => hts w (List.mem_cons_of_mem _ h)
  have hown : s.vm.findClass RX2 = some m.cls := findClass_of_methodNamed Bd.named
  have hlocks := Bd.notSynchronized
  obtain ⟨Q, hQ⟩ : ∃ Q, Q = MQ below (va_Qi (S := Int32 × Int32 × Int32 × Int32) (fun r u => (r = 0 ∨ r = 1) ∧ (jfIl (jfV 1 pl.toInt to.toInt ke.toInt sg.toInt il.toInt dg.toInt sv.toInt fi.toInt) a1.toInt = jfV r.toInt u.1.toInt u.2.1.toInt ke.toInt sg.toInt il.toInt u.2.2.1.toInt u.2.2.2.toInt fi.toInt ∧ 0 ≤ u.2.2.2.toInt ∧ u.2.2.2.toInt ≤ 3000 + 100000 * (1 - r.toInt) ∧ 0 ≤ u.2.2.1.toInt ∧ u.2.2.1.toInt ≤ 4 + (1 - r.toInt) ∧ (u.2.1.toInt = to.toInt ∨ u.2.1.toInt = sv.toInt) ∧ (u.1.toInt = pl.toInt ∨ u.1.toInt = 4))) (fun u t => jRt (dC, dI) B base G0 EX2_isInLengthF H0 [(r0, 4, 5, .int u.1), (r0, 4, 6, .int u.2.1), (r0, 4, 10, .int u.2.2.1), (r0, 4, 11, .int u.2.2.2)] t.heap) (jA base)) ([.ref r0, .int a1] : List Value).toArray s 0 0 (jA base) := ⟨_, rfl⟩
  rw [← hQ]
  have hl := lv_entry ([.ref r0, .int a1]) (n := 2) (Nat.le_of_ble_eq_true rfl)
  rw [lg_entry_eq]
  generalize (lg_sl ([.ref r0, .int a1]) ++ List.replicate (2 - (lg_sl ([.ref r0, .int a1])).length) Slot.unset).toArray = ls at hl ⊢
  have hl : lv_has ls 2 [(0, .ref r0), (1, .int a1)] := hl
  generalize hR : (headSpec (jw yX2_isInLength cX2_isInLength 2 (some .boolean)) ({ frames := 0, cells := 0, slots := 0, locals := 0 })).room = R
  subst hH0
  have hh : jSt (dC, dI) B base G0 G0 EX2_isInLengthF s.heap 0 0 [(r0, 4, 5, .int pl), (r0, 4, 6, .int to), (r0, 4, 2, .int ke), (r0, 4, 8, .int sg), (r0, 4, 9, .int il), (r0, 4, 10, .int dg), (r0, 4, 11, .int sv), (r0, 4, 7, .int fi)] [] [] s.heap [] := jSt.start hX hP0 jMc.nil jIs.nil
  clear hX hP0
  have hk0 : (0 : Int32).toInt = 0 := by decide
  have hk1 : (1 : Int32).toInt = 1 := by decide
  have hk4 : (4 : Int32).toInt = 4 := by decide
  have hk10 : (10 : Int32).toInt = 10 := by decide
  have hk13 : (13 : Int32).toInt = 13 := by decide
  have hk32 : (32 : Int32).toInt = 32 := by decide
  have hk48 : (48 : Int32).toInt = 48 := by decide
  have hk57 : (57 : Int32).toInt = 57 := by decide
  have hk3000 : (3000 : Int32).toInt = 3000 := by decide
  have hly_4_5 := htw (u_lay RX2 TX2 5) (jWc_wsX20 _ (u_in_lay (by decide)))
  have hly_4_6 := htw (u_lay RX2 TX2 6) (jWc_wsX20 _ (u_in_lay (by decide)))
  have hly_4_10 := htw (u_lay RX2 TX2 10) (jWc_wsX20 _ (u_in_lay (by decide)))
  have hly_4_11 := htw (u_lay RX2 TX2 11) (jWc_wsX20 _ (u_in_lay (by decide)))
  have hlk_15 := (htw (.fieldLink RX2 15 "ProofServer$Frames" "place" "I") (jWr_3 _ (List.mem_of_getElem? (i := 15) rfl)))
  have hlk_70 := (htw (.fieldLink RX2 70 "ProofServer$Frames" "value" "I") (jWr_18 _ (List.mem_of_getElem? (i := 10) rfl)))
  have hlk_19 := (htw (.fieldLink RX2 19 "ProofServer$Frames" "told" "I") (jWr_3 _ (List.mem_of_getElem? (i := 16) rfl)))
  have hlk_67 := (htw (.fieldLink RX2 67 "ProofServer$Frames" "digits" "I") (jWr_18 _ (List.mem_of_getElem? (i := 9) rfl)))
  have hrg_a1 := jb_rng a1
  refine lv_iload_n hx hb dX2_isInLength_0 rfl (lv_at hl 1 rfl) ?_
  refine lv_bipush (v := 13) hx hb dX2_isInLength_1 (by decide) ?_
  refine lv_icmp_ne (tgt := 32) hx hb dX2_isInLength_3 (by decide) (fun c_1 => ?_) (fun c_1 => ?_)
  · skip
    have c_1' : a1.toInt ≠ 13 := jb_ne (rfl) ((by decide)) c_1
    refine lv_iload_n hx hb dX2_isInLength_32 rfl (lv_at hl 1 rfl) ?_
    refine lv_bipush (v := 48) hx hb dX2_isInLength_33 (by decide) ?_
    refine lv_icmp_lt (tgt := 44) hx hb dX2_isInLength_35 (by decide) (fun c_2 => ?_) (fun c_2 => ?_)
    · skip
      have c_2' : a1.toInt < 48 := jb_lt (rfl) ((by decide)) c_2
      refine lv_iload_n hx hb dX2_isInLength_44 rfl (lv_at hl 1 rfl) ?_
      refine lv_bipush (v := 32) hx hb dX2_isInLength_45 (by decide) ?_
      refine lv_icmp_ne (tgt := 61) hx hb dX2_isInLength_47 (by decide) (fun c_3 => ?_) (fun c_3 => ?_)
      · skip
        have c_3' : a1.toInt ≠ 32 := jb_ne (rfl) ((by decide)) c_3
        refine lv_iconst (v := 0) hx hb dX2_isInLength_61 (by decide) ?_
        rw [hQ]
        exact W.zret (v := 0) hx hb hr (jb_nz (Or.inl rfl)) (fun t ht hW => ⟨⟨0, (pl, to, dg, sv), rfl, ⟨(Or.inl rfl), by (try dsimp only); refine ⟨?_, by omega, by omega, by omega, by omega, by omega, by omega⟩; exact jfIl_b (by omega) (by omega) (by omega)⟩, hh.rt (M1 := [(r0, 4, 5, .int pl), (r0, 4, 6, .int to), (r0, 4, 10, .int dg), (r0, 4, 11, .int sv)]) [0, 1, 5, 6] rfl ht⟩, by rw [ht]; try exact hh.1.1, fun q h9 hq => by rw [ht]; try exact hh.1.2.1 q h9 hq⟩) hh.1.2.2 dX2_isInLength_62
      · skip
        have c_3' : a1.toInt = 32 := jb_ne_n (rfl) ((by decide)) c_3
        refine lv_aload_n hx hb dX2_isInLength_50 rfl (lv_at hl 0 rfl) ?_
        refine j7_read hx hb hown hK (C := RX2) (T := TX2) (N := 12) rfl hly_4_10 hlk_67 (hh.at 5 rfl) dX2_isInLength_51 ?_
        refine lv_if_ne (tgt := 61) hx hb dX2_isInLength_54 (by decide) (fun c_4 => ?_) (fun c_4 => ?_)
        · skip
          have c_4' : dg.toInt ≠ 0 := jb_ne (rfl) ((by decide)) c_4
          refine lv_iconst (v := 0) hx hb dX2_isInLength_61 (by decide) ?_
          rw [hQ]
          exact W.zret (v := 0) hx hb hr (jb_nz (Or.inl rfl)) (fun t ht hW => ⟨⟨0, (pl, to, dg, sv), rfl, ⟨(Or.inl rfl), by (try dsimp only); refine ⟨?_, by omega, by omega, by omega, by omega, by omega, by omega⟩; exact jfIl_b (by omega) (by omega) (by omega)⟩, hh.rt (M1 := [(r0, 4, 5, .int pl), (r0, 4, 6, .int to), (r0, 4, 10, .int dg), (r0, 4, 11, .int sv)]) [0, 1, 5, 6] rfl ht⟩, by rw [ht]; try exact hh.1.1, fun q h9 hq => by rw [ht]; try exact hh.1.2.1 q h9 hq⟩) hh.1.2.2 dX2_isInLength_62
        · skip
          have c_4' : dg.toInt = 0 := jb_ne_n (rfl) ((by decide)) c_4
          refine lv_iconst (v := 1) hx hb dX2_isInLength_57 (by decide) ?_
          refine lv_goto (tgt := 62) hx hb dX2_isInLength_58 (by decide) ?_
          rw [hQ]
          exact W.zret (v := 1) hx hb hr (jb_nz (Or.inr rfl)) (fun t ht hW => ⟨⟨1, (pl, to, dg, sv), rfl, ⟨(Or.inr rfl), by (try dsimp only); refine ⟨?_, by omega, by omega, by omega, by omega, by omega, by omega⟩; exact jfIl_b (by omega) (by omega) (by omega)⟩, hh.rt (M1 := [(r0, 4, 5, .int pl), (r0, 4, 6, .int to), (r0, 4, 10, .int dg), (r0, 4, 11, .int sv)]) [0, 1, 5, 6] rfl ht⟩, by rw [ht]; try exact hh.1.1, fun q h9 hq => by rw [ht]; try exact hh.1.2.1 q h9 hq⟩) hh.1.2.2 dX2_isInLength_62
    · skip
      have c_2' : a1.toInt ≥ 48 := jb_lt_n (rfl) ((by decide)) c_2
      refine lv_iload_n hx hb dX2_isInLength_38 rfl (lv_at hl 1 rfl) ?_
      refine lv_bipush (v := 57) hx hb dX2_isInLength_39 (by decide) ?_
      refine lv_icmp_le (tgt := 63) hx hb dX2_isInLength_41 (by decide) (fun c_5 => ?_) (fun c_5 => ?_)
      · skip
        have c_5' : a1.toInt ≤ 57 := jb_le (rfl) ((by decide)) c_5
        refine lv_aload_n hx hb dX2_isInLength_63 rfl (lv_at hl 0 rfl) ?_
        refine lv_dup hx hb dX2_isInLength_64 rfl ?_
        refine j7_read hx hb hown hK (C := RX2) (T := TX2) (N := 12) rfl hly_4_10 hlk_67 (hh.at 5 rfl) dX2_isInLength_65 ?_
        refine lv_iconst (v := 1) hx hb dX2_isInLength_68 (by decide) ?_
        refine lv_iadd hx hb dX2_isInLength_69 ?_
        refine lv_topi (fun z_6 ez_6 => ?_)
        have hz_6 : z_6.toInt = dg.toInt + 1 := by rw [ez_6]; exact jb_iadd2 (rfl) ((by decide)) (by omega)
        refine j7_put hx hb hown hK hh hB hAp hB4 (C := RX2) (T := TX2) (N := 12) rfl (by decide) hg_r0 (i := 10) (by decide) hly_4_10 rfl hlk_67 rfl (ty := .int) (v := .int z_6) (by decide +kernel) rfl rfl (⟨_, rfl⟩) rfl (L1 := [(r0, 4, 5, .int pl), (r0, 4, 6, .int to), (r0, 4, 2, .int ke), (r0, 4, 8, .int sg), (r0, 4, 9, .int il), (r0, 4, 11, .int sv), (r0, 4, 7, .int fi)]) [0, 1, 2, 3, 4, 6, 7] rfl rfl rfl dX2_isInLength_70 (fun H_7 locs_7 hh_7 => ?_)
        clear hh
        refine lv_aload_n hx hb dX2_isInLength_73 rfl (lv_at hl 0 rfl) ?_
        refine lv_aload_n hx hb dX2_isInLength_74 rfl (lv_at hl 0 rfl) ?_
        refine j7_read hx hb hown hK (C := RX2) (T := TX2) (N := 12) rfl hly_4_11 hlk_70 (hh_7.at 6 rfl) dX2_isInLength_75 ?_
        refine lv_bipush (v := 10) hx hb dX2_isInLength_78 (by decide) ?_
        refine lv_imul hx hb dX2_isInLength_80 ?_
        refine lv_topi (fun z_8 ez_8 => ?_)
        have hz_8 : z_8.toInt = sv.toInt * 10 := by rw [ez_8]; exact jb_imul2 (rfl) ((by decide)) (by omega)
        refine lv_iload_n hx hb dX2_isInLength_81 rfl (lv_at hl 1 rfl) ?_
        refine lv_iadd hx hb dX2_isInLength_82 ?_
        refine lv_topi (fun z_9 ez_9 => ?_)
        have hz_9 : z_9.toInt = z_8.toInt + a1.toInt := by rw [ez_9]; exact jb_iadd2 (rfl) (rfl) (by omega)
        refine lv_bipush (v := 48) hx hb dX2_isInLength_83 (by decide) ?_
        refine lv_isub hx hb dX2_isInLength_85 ?_
        refine lv_topi (fun z_10 ez_10 => ?_)
        have hz_10 : z_10.toInt = z_9.toInt - 48 := by rw [ez_10]; exact jb_isub2 (rfl) ((by decide)) (by omega)
        refine j7_put hx hb hown hK hh_7 hB hAp hB4 (C := RX2) (T := TX2) (N := 12) rfl (by decide) hg_r0 (i := 11) (by decide) hly_4_11 rfl hlk_70 rfl (ty := .int) (v := .int z_10) (by decide +kernel) rfl rfl (⟨_, rfl, by omega, by omega⟩) rfl (L1 := [(r0, 4, 10, .int z_6), (r0, 4, 5, .int pl), (r0, 4, 6, .int to), (r0, 4, 2, .int ke), (r0, 4, 8, .int sg), (r0, 4, 9, .int il), (r0, 4, 7, .int fi)]) [0, 1, 2, 3, 4, 5, 7] rfl rfl rfl dX2_isInLength_86 (fun H_11 locs_11 hh_11 => ?_)
        clear hh_7
        refine lv_aload_n hx hb dX2_isInLength_89 rfl (lv_at hl 0 rfl) ?_
        refine j7_read hx hb hown hK (C := RX2) (T := TX2) (N := 12) rfl hly_4_10 hlk_67 (hh_11.at 1 rfl) dX2_isInLength_90 ?_
        refine lv_iconst (v := 4) hx hb dX2_isInLength_93 (by decide) ?_
        refine lv_icmp_gt (tgt := 111) hx hb dX2_isInLength_94 (by decide) (fun c_12 => ?_) (fun c_12 => ?_)
        · skip
          have c_12' : z_6.toInt > 4 := jb_gt (rfl) ((by decide)) c_12
          refine lv_iconst (v := 0) hx hb dX2_isInLength_111 (by decide) ?_
          rw [hQ]
          exact W.zret (v := 0) hx hb hr (jb_nz (Or.inl rfl)) (fun t ht hW => ⟨⟨0, (pl, to, z_6, z_10), rfl, ⟨(Or.inl rfl), by (try dsimp only); refine ⟨?_, by omega, by omega, by omega, by omega, by omega, by omega⟩; exact jfIl_d (by omega) (by omega) (by omega) (by omega) (by omega)⟩, hh_11.rt (M1 := [(r0, 4, 5, .int pl), (r0, 4, 6, .int to), (r0, 4, 10, .int z_6), (r0, 4, 11, .int z_10)]) [2, 3, 1, 0] rfl ht⟩, by rw [ht]; try exact hh_11.1.1, fun q h9 hq => by rw [ht]; try exact hh_11.1.2.1 q h9 hq⟩) hh_11.1.2.2 dX2_isInLength_112
        · skip
          have c_12' : z_6.toInt ≤ 4 := jb_gt_n (rfl) ((by decide)) c_12
          refine lv_aload_n hx hb dX2_isInLength_97 rfl (lv_at hl 0 rfl) ?_
          refine j7_read hx hb hown hK (C := RX2) (T := TX2) (N := 12) rfl hly_4_11 hlk_70 (hh_11.at 0 rfl) dX2_isInLength_98 ?_
          refine lv_sipush (v := 3000) hx hb dX2_isInLength_101 (by decide) ?_
          refine lv_icmp_gt (tgt := 111) hx hb dX2_isInLength_104 (by decide) (fun c_13 => ?_) (fun c_13 => ?_)
          · skip
            have c_13' : z_10.toInt > 3000 := jb_gt (rfl) ((by decide)) c_13
            refine lv_iconst (v := 0) hx hb dX2_isInLength_111 (by decide) ?_
            rw [hQ]
            exact W.zret (v := 0) hx hb hr (jb_nz (Or.inl rfl)) (fun t ht hW => ⟨⟨0, (pl, to, z_6, z_10), rfl, ⟨(Or.inl rfl), by (try dsimp only); refine ⟨?_, by omega, by omega, by omega, by omega, by omega, by omega⟩; exact jfIl_d (by omega) (by omega) (by omega) (by omega) (by omega)⟩, hh_11.rt (M1 := [(r0, 4, 5, .int pl), (r0, 4, 6, .int to), (r0, 4, 10, .int z_6), (r0, 4, 11, .int z_10)]) [2, 3, 1, 0] rfl ht⟩, by rw [ht]; try exact hh_11.1.1, fun q h9 hq => by rw [ht]; try exact hh_11.1.2.1 q h9 hq⟩) hh_11.1.2.2 dX2_isInLength_112
          · skip
            have c_13' : z_10.toInt ≤ 3000 := jb_gt_n (rfl) ((by decide)) c_13
            refine lv_iconst (v := 1) hx hb dX2_isInLength_107 (by decide) ?_
            refine lv_goto (tgt := 112) hx hb dX2_isInLength_108 (by decide) ?_
            rw [hQ]
            exact W.zret (v := 1) hx hb hr (jb_nz (Or.inr rfl)) (fun t ht hW => ⟨⟨1, (pl, to, z_6, z_10), rfl, ⟨(Or.inr rfl), by (try dsimp only); refine ⟨?_, by omega, by omega, by omega, by omega, by omega, by omega⟩; exact jfIl_d (by omega) (by omega) (by omega) (by omega) (by omega)⟩, hh_11.rt (M1 := [(r0, 4, 5, .int pl), (r0, 4, 6, .int to), (r0, 4, 10, .int z_6), (r0, 4, 11, .int z_10)]) [2, 3, 1, 0] rfl ht⟩, by rw [ht]; try exact hh_11.1.1, fun q h9 hq => by rw [ht]; try exact hh_11.1.2.1 q h9 hq⟩) hh_11.1.2.2 dX2_isInLength_112
      · skip
        have c_5' : a1.toInt > 57 := jb_le_n (rfl) ((by decide)) c_5
        refine lv_iload_n hx hb dX2_isInLength_44 rfl (lv_at hl 1 rfl) ?_
        refine lv_bipush (v := 32) hx hb dX2_isInLength_45 (by decide) ?_
        refine lv_icmp_ne (tgt := 61) hx hb dX2_isInLength_47 (by decide) (fun c_14 => ?_) (fun c_14 => ?_)
        · skip
          have c_14' : a1.toInt ≠ 32 := jb_ne (rfl) ((by decide)) c_14
          refine lv_iconst (v := 0) hx hb dX2_isInLength_61 (by decide) ?_
          rw [hQ]
          exact W.zret (v := 0) hx hb hr (jb_nz (Or.inl rfl)) (fun t ht hW => ⟨⟨0, (pl, to, dg, sv), rfl, ⟨(Or.inl rfl), by (try dsimp only); refine ⟨?_, by omega, by omega, by omega, by omega, by omega, by omega⟩; exact jfIl_b (by omega) (by omega) (by omega)⟩, hh.rt (M1 := [(r0, 4, 5, .int pl), (r0, 4, 6, .int to), (r0, 4, 10, .int dg), (r0, 4, 11, .int sv)]) [0, 1, 5, 6] rfl ht⟩, by rw [ht]; try exact hh.1.1, fun q h9 hq => by rw [ht]; try exact hh.1.2.1 q h9 hq⟩) hh.1.2.2 dX2_isInLength_62
        · skip
          have c_14' : a1.toInt = 32 := jb_ne_n (rfl) ((by decide)) c_14
          refine lv_aload_n hx hb dX2_isInLength_50 rfl (lv_at hl 0 rfl) ?_
          refine j7_read hx hb hown hK (C := RX2) (T := TX2) (N := 12) rfl hly_4_10 hlk_67 (hh.at 5 rfl) dX2_isInLength_51 ?_
          refine lv_if_ne (tgt := 61) hx hb dX2_isInLength_54 (by decide) (fun c_15 => ?_) (fun c_15 => ?_)
          · skip
            have c_15' : dg.toInt ≠ 0 := jb_ne (rfl) ((by decide)) c_15
            refine lv_iconst (v := 0) hx hb dX2_isInLength_61 (by decide) ?_
            rw [hQ]
            exact W.zret (v := 0) hx hb hr (jb_nz (Or.inl rfl)) (fun t ht hW => ⟨⟨0, (pl, to, dg, sv), rfl, ⟨(Or.inl rfl), by (try dsimp only); refine ⟨?_, by omega, by omega, by omega, by omega, by omega, by omega⟩; exact jfIl_b (by omega) (by omega) (by omega)⟩, hh.rt (M1 := [(r0, 4, 5, .int pl), (r0, 4, 6, .int to), (r0, 4, 10, .int dg), (r0, 4, 11, .int sv)]) [0, 1, 5, 6] rfl ht⟩, by rw [ht]; try exact hh.1.1, fun q h9 hq => by rw [ht]; try exact hh.1.2.1 q h9 hq⟩) hh.1.2.2 dX2_isInLength_62
          · skip
            have c_15' : dg.toInt = 0 := jb_ne_n (rfl) ((by decide)) c_15
            refine lv_iconst (v := 1) hx hb dX2_isInLength_57 (by decide) ?_
            refine lv_goto (tgt := 62) hx hb dX2_isInLength_58 (by decide) ?_
            rw [hQ]
            exact W.zret (v := 1) hx hb hr (jb_nz (Or.inr rfl)) (fun t ht hW => ⟨⟨1, (pl, to, dg, sv), rfl, ⟨(Or.inr rfl), by (try dsimp only); refine ⟨?_, by omega, by omega, by omega, by omega, by omega, by omega⟩; exact jfIl_b (by omega) (by omega) (by omega)⟩, hh.rt (M1 := [(r0, 4, 5, .int pl), (r0, 4, 6, .int to), (r0, 4, 10, .int dg), (r0, 4, 11, .int sv)]) [0, 1, 5, 6] rfl ht⟩, by rw [ht]; try exact hh.1.1, fun q h9 hq => by rw [ht]; try exact hh.1.2.1 q h9 hq⟩) hh.1.2.2 dX2_isInLength_62
  · skip
    have c_1' : a1.toInt = 13 := jb_ne_n (rfl) ((by decide)) c_1
    refine lv_aload_n hx hb dX2_isInLength_6 rfl (lv_at hl 0 rfl) ?_
    refine lv_iconst (v := 4) hx hb dX2_isInLength_7 (by decide) ?_
    refine j7_put hx hb hown hK hh hB hAp hB4 (C := RX2) (T := TX2) (N := 12) rfl (by decide) hg_r0 (i := 5) (by decide) hly_4_5 rfl hlk_15 rfl (ty := .int) (v := .int 4) (by decide +kernel) rfl rfl (⟨_, rfl⟩) rfl (L1 := [(r0, 4, 6, .int to), (r0, 4, 2, .int ke), (r0, 4, 8, .int sg), (r0, 4, 9, .int il), (r0, 4, 10, .int dg), (r0, 4, 11, .int sv), (r0, 4, 7, .int fi)]) [1, 2, 3, 4, 5, 6, 7] rfl rfl rfl dX2_isInLength_8 (fun H_16 locs_16 hh_16 => ?_)
    clear hh
    refine lv_aload_n hx hb dX2_isInLength_11 rfl (lv_at hl 0 rfl) ?_
    refine lv_aload_n hx hb dX2_isInLength_12 rfl (lv_at hl 0 rfl) ?_
    refine j7_read hx hb hown hK (C := RX2) (T := TX2) (N := 12) rfl hly_4_11 hlk_70 (hh_16.at 6 rfl) dX2_isInLength_13 ?_
    refine j7_put hx hb hown hK hh_16 hB hAp hB4 (C := RX2) (T := TX2) (N := 12) rfl (by decide) hg_r0 (i := 6) (by decide) hly_4_6 rfl hlk_19 rfl (ty := .int) (v := .int sv) (by decide +kernel) rfl rfl (⟨_, rfl, by omega, by omega⟩) rfl (L1 := [(r0, 4, 5, .int 4), (r0, 4, 2, .int ke), (r0, 4, 8, .int sg), (r0, 4, 9, .int il), (r0, 4, 10, .int dg), (r0, 4, 11, .int sv), (r0, 4, 7, .int fi)]) [0, 2, 3, 4, 5, 6, 7] rfl rfl rfl dX2_isInLength_16 (fun H_17 locs_17 hh_17 => ?_)
    clear hh_16
    refine lv_aload_n hx hb dX2_isInLength_19 rfl (lv_at hl 0 rfl) ?_
    refine j7_read hx hb hown hK (C := RX2) (T := TX2) (N := 12) rfl hly_4_10 hlk_67 (hh_17.at 5 rfl) dX2_isInLength_20 ?_
    refine lv_if_le (tgt := 30) hx hb dX2_isInLength_23 (by decide) (fun c_18 => ?_) (fun c_18 => ?_)
    · skip
      have c_18' : dg.toInt ≤ 0 := jb_le (rfl) ((by decide)) c_18
      refine lv_iconst (v := 0) hx hb dX2_isInLength_30 (by decide) ?_
      rw [hQ]
      exact W.zret (v := 0) hx hb hr (jb_nz (Or.inl rfl)) (fun t ht hW => ⟨⟨0, (4, sv, dg, sv), rfl, ⟨(Or.inl rfl), by (try dsimp only); refine ⟨?_, by omega, by omega, by omega, by omega, by omega, by omega⟩; exact jfIl_r (by omega) (by omega) (by omega) (by omega)⟩, hh_17.rt (M1 := [(r0, 4, 5, .int 4), (r0, 4, 6, .int sv), (r0, 4, 10, .int dg), (r0, 4, 11, .int sv)]) [1, 0, 5, 6] rfl ht⟩, by rw [ht]; try exact hh_17.1.1, fun q h9 hq => by rw [ht]; try exact hh_17.1.2.1 q h9 hq⟩) hh_17.1.2.2 dX2_isInLength_31
    · skip
      have c_18' : dg.toInt > 0 := jb_le_n (rfl) ((by decide)) c_18
      refine lv_iconst (v := 1) hx hb dX2_isInLength_26 (by decide) ?_
      refine lv_goto (tgt := 31) hx hb dX2_isInLength_27 (by decide) ?_
      rw [hQ]
      exact W.zret (v := 1) hx hb hr (jb_nz (Or.inr rfl)) (fun t ht hW => ⟨⟨1, (4, sv, dg, sv), rfl, ⟨(Or.inr rfl), by (try dsimp only); refine ⟨?_, by omega, by omega, by omega, by omega, by omega, by omega⟩; exact jfIl_r (by omega) (by omega) (by omega) (by omega)⟩, hh_17.rt (M1 := [(r0, 4, 5, .int 4), (r0, 4, 6, .int sv), (r0, 4, 10, .int dg), (r0, 4, 11, .int sv)]) [1, 0, 5, 6] rfl ht⟩, by rw [ht]; try exact hh_17.1.1, fun q h9 hq => by rw [ht]; try exact hh_17.1.2.1 q h9 hq⟩) hh_17.1.2.2 dX2_isInLength_31
set_option maxHeartbeats 4000000 in
set_option maxRecDepth 20000 in
theorem uX2_isInNameF (l : Launch) (dC : Nat → ClassId) (dI : Nat → Nat → Nat) (ca : Nat → ClassId) (base : Nat) (B : jF) (hB : jBok B) (hAp : jAp (dC, dI)) (hB4 : ∀ n G a H, B 4 n G a H ↔ jOb (dC, dI) 4 12 (F4 n G) a H) (G0 : jT) (H0 : Heap) (r0 : Nat) (a1 : Int32) (pl : Int32) (to : Int32) (ke : Int32) (sg : Int32) (il : Int32) (dg : Int32) (sv : Int32) (fi : Int32) : Met l yX2_isInName (jw yX2_isInName cX2_isInName 3 (some .boolean)) ({ frames := 4, cells := 0, slots := 0, locals := 141 }) (va_Pc [.ref r0, .int a1] (fun U => U.heap = H0 ∧ jX B base G0 [] H0 ∧ jG dC dI ca base U ∧ G0 r0 = some (4, 0) ∧ jP (dC, dI) G0 H0 [(r0, 4, 5, .int pl), (r0, 4, 6, .int to), (r0, 4, 2, .int ke), (r0, 4, 8, .int sg), (r0, 4, 9, .int il), (r0, 4, 10, .int dg), (r0, 4, 11, .int sv), (r0, 4, 7, .int fi)] ∧ 0 ≤ sg.toInt ∧ sg.toInt ≤ 300 ∧ 0 ≤ a1.toInt ∧ a1.toInt ≤ 255 ∧ 0 ≤ il.toInt ∧ il.toInt ≤ 1)) (va_Qi (S := Int32 × Int32 × Int32 × Int32 × Int32) (fun r u => (r = 0 ∨ r = 1) ∧ (jfIn (jfV 1 pl.toInt to.toInt ke.toInt sg.toInt il.toInt dg.toInt sv.toInt fi.toInt) a1.toInt = jfV r.toInt u.1.toInt to.toInt ke.toInt u.2.1.toInt u.2.2.1.toInt u.2.2.2.1.toInt u.2.2.2.2.toInt fi.toInt ∧ sg.toInt ≤ u.2.1.toInt ∧ u.2.1.toInt ≤ sg.toInt + 1 ∧ 0 ≤ u.2.2.1.toInt ∧ u.2.2.1.toInt ≤ 1 ∧ (u.2.2.2.1.toInt = dg.toInt ∨ u.2.2.2.1.toInt = 0) ∧ (u.2.2.2.2.toInt = sv.toInt ∨ u.2.2.2.2.toInt = 0) ∧ (u.1.toInt = pl.toInt ∨ u.1.toInt = 2 ∨ u.1.toInt = 3))) (fun u t => jRt (dC, dI) B base G0 EX2_isInNameF H0 [(r0, 4, 5, .int u.1), (r0, 4, 8, .int u.2.1), (r0, 4, 9, .int u.2.2.1), (r0, 4, 10, .int u.2.2.2.1), (r0, 4, 11, .int u.2.2.2.2)] t.heap) (jA base)) 0 0 (jA base) := by
  refine Met.ofW (cc := cX2_isInName) (maxL := 3) (ret := (some .boolean)) (by decide) rfl ?_
  intro p e s m args below meth c s₁ Bd hml hv
  obtain ⟨rfl, hH0, hX, hG, hg_r0, hP0, hp0, hp1, hp2, hp3, hp4, hp5⟩ := hv
  have hK := hG.1
  have hx := Bd.exec
  have hb := Bd.bytes
  have hr := Bd.returns
  have hts := atoms_spec (ws := (jw yX2_isInName cX2_isInName 3 (some .boolean))) Bd.pre
  have htw : ∀ w ∈ jWl, w.before _ s = true := fun w h => hts w (List.mem_cons_of_mem _ h)
  have hown : s.vm.findClass RX2 = some m.cls := findClass_of_methodNamed Bd.named
  have hlocks := Bd.notSynchronized
  obtain ⟨Q, hQ⟩ : ∃ Q, Q = MQ below (va_Qi (S := Int32 × Int32 × Int32 × Int32 × Int32) (fun r u => (r = 0 ∨ r = 1) ∧ (jfIn (jfV 1 pl.toInt to.toInt ke.toInt sg.toInt il.toInt dg.toInt sv.toInt fi.toInt) a1.toInt = jfV r.toInt u.1.toInt to.toInt ke.toInt u.2.1.toInt u.2.2.1.toInt u.2.2.2.1.toInt u.2.2.2.2.toInt fi.toInt ∧ sg.toInt ≤ u.2.1.toInt ∧ u.2.1.toInt ≤ sg.toInt + 1 ∧ 0 ≤ u.2.2.1.toInt ∧ u.2.2.1.toInt ≤ 1 ∧ (u.2.2.2.1.toInt = dg.toInt ∨ u.2.2.2.1.toInt = 0) ∧ (u.2.2.2.2.toInt = sv.toInt ∨ u.2.2.2.2.toInt = 0) ∧ (u.1.toInt = pl.toInt ∨ u.1.toInt = 2 ∨ u.1.toInt = 3))) (fun u t => jRt (dC, dI) B base G0 EX2_isInNameF H0 [(r0, 4, 5, .int u.1), (r0, 4, 8, .int u.2.1), (r0, 4, 9, .int u.2.2.1), (r0, 4, 10, .int u.2.2.2.1), (r0, 4, 11, .int u.2.2.2.2)] t.heap) (jA base)) ([.ref r0, .int a1] : List Value).toArray s 0 0 (jA base) := ⟨_, rfl⟩
  rw [← hQ]
  have hl := lv_entry ([.ref r0, .int a1]) (n := 3) (Nat.le_of_ble_eq_true rfl)
  rw [lg_entry_eq]
  generalize (lg_sl ([.ref r0, .int a1]) ++ List.replicate (3 - (lg_sl ([.ref r0, .int a1])).length) Slot.unset).toArray = ls at hl ⊢
  have hl : lv_has ls 3 [(0, .ref r0), (1, .int a1)] := hl
  generalize hR : (headSpec (jw yX2_isInName cX2_isInName 3 (some .boolean)) ({ frames := 4, cells := 0, slots := 0, locals := 141 })).room = R
  subst hH0
  have hh : jSt (dC, dI) B base G0 G0 EX2_isInNameF s.heap 0 0 [(r0, 4, 5, .int pl), (r0, 4, 6, .int to), (r0, 4, 2, .int ke), (r0, 4, 8, .int sg), (r0, 4, 9, .int il), (r0, 4, 10, .int dg), (r0, 4, 11, .int sv), (r0, 4, 7, .int fi)] [] [] s.heap [] := jSt.start hX hP0 jMc.nil jIs.nil
  clear hX hP0
  have hk0 : (0 : Int32).toInt = 0 := by decide
  have hk1 : (1 : Int32).toInt = 1 := by decide
  have hk2 : (2 : Int32).toInt = 2 := by decide
  have hk3 : (3 : Int32).toInt = 3 := by decide
  have hk32 : (32 : Int32).toInt = 32 := by decide
  have hk45 : (45 : Int32).toInt = 45 := by decide
  have hk58 : (58 : Int32).toInt = 58 := by decide
  have hk65 : (65 : Int32).toInt = 65 := by decide
  have hk90 : (90 : Int32).toInt = 90 := by decide
  have hk97 : (97 : Int32).toInt = 97 := by decide
  have hk122 : (122 : Int32).toInt = 122 := by decide
  have hly_4_5 := htw (u_lay RX2 TX2 5) (jWc_wsX20 _ (u_in_lay (by decide)))
  have hly_4_8 := htw (u_lay RX2 TX2 8) (jWc_wsX20 _ (u_in_lay (by decide)))
  have hly_4_9 := htw (u_lay RX2 TX2 9) (jWc_wsX20 _ (u_in_lay (by decide)))
  have hly_4_10 := htw (u_lay RX2 TX2 10) (jWc_wsX20 _ (u_in_lay (by decide)))
  have hly_4_11 := htw (u_lay RX2 TX2 11) (jWc_wsX20 _ (u_in_lay (by decide)))
  have hlk_57 := (htw (.fieldLink RX2 57 "ProofServer$Frames" "isLengthName" "Z") (jWr_18 _ (List.mem_of_getElem? (i := 4) rfl)))
  have hlk_54 := (htw (.fieldLink RX2 54 "ProofServer$Frames" "signs" "I") (jWr_18 _ (List.mem_of_getElem? (i := 3) rfl)))
  obtain ⟨str60, rstr60, hstr600⟩ := hG.strT (o := RX2) (k := 60) (tx := "content-length") (List.mem_of_getElem? (i := 613) (by decide +kernel))
  have hTstr60 : jStrF base str60 14 (jChT "content-length") s s.heap := hstr600.F (by decide +kernel)
  have hstr60 : jStr base str60 14 s s.heap := hTstr60.str
  have hlk_15 := (htw (.fieldLink RX2 15 "ProofServer$Frames" "place" "I") (jWr_3 _ (List.mem_of_getElem? (i := 15) rfl)))
  have hlk_67 := (htw (.fieldLink RX2 67 "ProofServer$Frames" "digits" "I") (jWr_18 _ (List.mem_of_getElem? (i := 9) rfl)))
  have hlk_70 := (htw (.fieldLink RX2 70 "ProofServer$Frames" "value" "I") (jWr_18 _ (List.mem_of_getElem? (i := 10) rfl)))
  have hrg_a1 := jb_rng a1
  refine lv_iload_n hx hb dX2_isInName_0 rfl (lv_at hl 1 rfl) ?_
  refine lv_bipush (v := 58) hx hb dX2_isInName_1 (by decide) ?_
  refine lv_icmp_ne (tgt := 46) hx hb dX2_isInName_3 (by decide) (fun c_1 => ?_) (fun c_1 => ?_)
  · skip
    have c_1' : a1.toInt ≠ 58 := jb_ne (rfl) ((by decide)) c_1
    refine lv_iload_n hx hb dX2_isInName_46 rfl (lv_at hl 1 rfl) ?_
    refine lv_bipush (v := 65) hx hb dX2_isInName_47 (by decide) ?_
    refine lv_icmp_lt (tgt := 65) hx hb dX2_isInName_49 (by decide) (fun c_2 => ?_) (fun c_2 => ?_)
    · skip
      have c_2' : a1.toInt < 65 := jb_lt (rfl) ((by decide)) c_2
      refine lv_iload_n hx hb dX2_isInName_65 rfl (lv_at hl 1 rfl) ?_
      refine lv_istore_n (lv' := [(2, .int a1), (0, .ref r0), (1, .int a1)]) hx hb dX2_isInName_66 rfl hl (by decide) rfl (fun ls hl => ?_)
      refine lv_aload_n hx hb dX2_isInName_67 rfl (lv_at hl 1 rfl) ?_
      refine lv_aload_n hx hb dX2_isInName_68 rfl (lv_at hl 1 rfl) ?_
      refine j7_read hx hb hown hK (C := RX2) (T := TX2) (N := 12) rfl hly_4_9 hlk_57 (hh.at 4 rfl) dX2_isInName_69 ?_
      refine lv_if_eq (tgt := 104) hx hb dX2_isInName_72 (by decide) (fun c_3 => ?_) (fun c_3 => ?_)
      · skip
        have c_3' : il.toInt = 0 := jb_eq (rfl) ((by decide)) c_3
        refine lv_iconst (v := 0) hx hb dX2_isInName_104 (by decide) ?_
        refine j7_put hx hb hown hK hh hB hAp hB4 (C := RX2) (T := TX2) (N := 12) rfl (by decide) hg_r0 (i := 9) (by decide) hly_4_9 rfl hlk_57 rfl (ty := .boolean) (v := .int 0) (by decide +kernel) (jb_nz (Or.inl rfl)) (jb_fz (Or.inl rfl)) (⟨_, rfl, (Or.inl rfl)⟩) rfl (L1 := [(r0, 4, 5, .int pl), (r0, 4, 6, .int to), (r0, 4, 2, .int ke), (r0, 4, 8, .int sg), (r0, 4, 10, .int dg), (r0, 4, 11, .int sv), (r0, 4, 7, .int fi)]) [0, 1, 2, 3, 5, 6, 7] rfl rfl rfl dX2_isInName_105 (fun H_4 locs_4 hh_4 => ?_)
        clear hh
        refine lv_aload_n hx hb dX2_isInName_108 rfl (lv_at hl 1 rfl) ?_
        refine lv_dup hx hb dX2_isInName_109 rfl ?_
        refine j7_read hx hb hown hK (C := RX2) (T := TX2) (N := 12) rfl hly_4_8 hlk_54 (hh_4.at 4 rfl) dX2_isInName_110 ?_
        refine lv_iconst (v := 1) hx hb dX2_isInName_113 (by decide) ?_
        refine lv_iadd hx hb dX2_isInName_114 ?_
        refine lv_topi (fun z_5 ez_5 => ?_)
        have hz_5 : z_5.toInt = sg.toInt + 1 := by rw [ez_5]; exact jb_iadd2 (rfl) ((by decide)) (by omega)
        refine j7_put hx hb hown hK hh_4 hB hAp hB4 (C := RX2) (T := TX2) (N := 12) rfl (by decide) hg_r0 (i := 8) (by decide) hly_4_8 rfl hlk_54 rfl (ty := .int) (v := .int z_5) (by decide +kernel) rfl rfl (⟨_, rfl⟩) rfl (L1 := [(r0, 4, 9, .int 0), (r0, 4, 5, .int pl), (r0, 4, 6, .int to), (r0, 4, 2, .int ke), (r0, 4, 10, .int dg), (r0, 4, 11, .int sv), (r0, 4, 7, .int fi)]) [0, 1, 2, 3, 5, 6, 7] rfl rfl rfl dX2_isInName_115 (fun H_6 locs_6 hh_6 => ?_)
        clear hh_4
        refine lv_iload_n hx hb dX2_isInName_118 rfl (lv_at hl 0 rfl) ?_
        refine lv_bipush (v := 45) hx hb dX2_isInName_119 (by decide) ?_
        refine lv_icmp_eq (tgt := 136) hx hb dX2_isInName_121 (by decide) (fun c_7 => ?_) (fun c_7 => ?_)
        · skip
          have c_7' : a1.toInt = 45 := jb_eq (rfl) ((by decide)) c_7
          refine lv_iconst (v := 1) hx hb dX2_isInName_136 (by decide) ?_
          refine lv_goto (tgt := 141) hx hb dX2_isInName_137 (by decide) ?_
          rw [hQ]
          exact W.zret (v := 1) hx hb hr (jb_nz (Or.inr rfl)) (fun t ht hW => ⟨⟨1, (pl, z_5, 0, dg, sv), rfl, ⟨(Or.inr rfl), by (try dsimp only); have hsm : (65 ≤ a1.toInt ∧ a1.toInt ≤ 90 ∧ jfSm a1.toInt = a1.toInt + 32) ∨ ((a1.toInt < 65 ∨ 90 < a1.toInt) ∧ jfSm a1.toInt = a1.toInt) := (by unfold jfSm; split <;> omega); refine ⟨?_, by omega, by omega, by omega, by omega, by omega, by omega, by omega⟩; exact jfIn_n (by omega) rfl (by omega) (by omega) (by omega)⟩, hh_6.rt (M1 := [(r0, 4, 5, .int pl), (r0, 4, 8, .int z_5), (r0, 4, 9, .int 0), (r0, 4, 10, .int dg), (r0, 4, 11, .int sv)]) [2, 0, 1, 5, 6] rfl ht⟩, by rw [ht]; try exact hh_6.1.1, fun q h9 hq => by rw [ht]; try exact hh_6.1.2.1 q h9 hq⟩) hh_6.1.2.2 dX2_isInName_141
        · skip
          have c_7' : a1.toInt ≠ 45 := jb_eq_n (rfl) ((by decide)) c_7
          refine lv_iload_n hx hb dX2_isInName_124 rfl (lv_at hl 0 rfl) ?_
          refine lv_bipush (v := 97) hx hb dX2_isInName_125 (by decide) ?_
          refine lv_icmp_lt (tgt := 140) hx hb dX2_isInName_127 (by decide) (fun c_8 => ?_) (fun c_8 => ?_)
          · skip
            have c_8' : a1.toInt < 97 := jb_lt (rfl) ((by decide)) c_8
            refine lv_iconst (v := 0) hx hb dX2_isInName_140 (by decide) ?_
            rw [hQ]
            exact W.zret (v := 0) hx hb hr (jb_nz (Or.inl rfl)) (fun t ht hW => ⟨⟨0, (pl, z_5, 0, dg, sv), rfl, ⟨(Or.inl rfl), by (try dsimp only); have hsm : (65 ≤ a1.toInt ∧ a1.toInt ≤ 90 ∧ jfSm a1.toInt = a1.toInt + 32) ∨ ((a1.toInt < 65 ∨ 90 < a1.toInt) ∧ jfSm a1.toInt = a1.toInt) := (by unfold jfSm; split <;> omega); refine ⟨?_, by omega, by omega, by omega, by omega, by omega, by omega, by omega⟩; exact jfIn_n (by omega) rfl (by omega) (by omega) (by omega)⟩, hh_6.rt (M1 := [(r0, 4, 5, .int pl), (r0, 4, 8, .int z_5), (r0, 4, 9, .int 0), (r0, 4, 10, .int dg), (r0, 4, 11, .int sv)]) [2, 0, 1, 5, 6] rfl ht⟩, by rw [ht]; try exact hh_6.1.1, fun q h9 hq => by rw [ht]; try exact hh_6.1.2.1 q h9 hq⟩) hh_6.1.2.2 dX2_isInName_141
          · skip
            have c_8' : a1.toInt ≥ 97 := jb_lt_n (rfl) ((by decide)) c_8
            refine lv_iload_n hx hb dX2_isInName_130 rfl (lv_at hl 0 rfl) ?_
            refine lv_bipush (v := 122) hx hb dX2_isInName_131 (by decide) ?_
            refine lv_icmp_gt (tgt := 140) hx hb dX2_isInName_133 (by decide) (fun c_9 => ?_) (fun c_9 => ?_)
            · skip
              have c_9' : a1.toInt > 122 := jb_gt (rfl) ((by decide)) c_9
              refine lv_iconst (v := 0) hx hb dX2_isInName_140 (by decide) ?_
              rw [hQ]
              exact W.zret (v := 0) hx hb hr (jb_nz (Or.inl rfl)) (fun t ht hW => ⟨⟨0, (pl, z_5, 0, dg, sv), rfl, ⟨(Or.inl rfl), by (try dsimp only); have hsm : (65 ≤ a1.toInt ∧ a1.toInt ≤ 90 ∧ jfSm a1.toInt = a1.toInt + 32) ∨ ((a1.toInt < 65 ∨ 90 < a1.toInt) ∧ jfSm a1.toInt = a1.toInt) := (by unfold jfSm; split <;> omega); refine ⟨?_, by omega, by omega, by omega, by omega, by omega, by omega, by omega⟩; exact jfIn_n (by omega) rfl (by omega) (by omega) (by omega)⟩, hh_6.rt (M1 := [(r0, 4, 5, .int pl), (r0, 4, 8, .int z_5), (r0, 4, 9, .int 0), (r0, 4, 10, .int dg), (r0, 4, 11, .int sv)]) [2, 0, 1, 5, 6] rfl ht⟩, by rw [ht]; try exact hh_6.1.1, fun q h9 hq => by rw [ht]; try exact hh_6.1.2.1 q h9 hq⟩) hh_6.1.2.2 dX2_isInName_141
            · skip
              have c_9' : a1.toInt ≤ 122 := jb_gt_n (rfl) ((by decide)) c_9
              refine lv_iconst (v := 1) hx hb dX2_isInName_136 (by decide) ?_
              refine lv_goto (tgt := 141) hx hb dX2_isInName_137 (by decide) ?_
              rw [hQ]
              exact W.zret (v := 1) hx hb hr (jb_nz (Or.inr rfl)) (fun t ht hW => ⟨⟨1, (pl, z_5, 0, dg, sv), rfl, ⟨(Or.inr rfl), by (try dsimp only); have hsm : (65 ≤ a1.toInt ∧ a1.toInt ≤ 90 ∧ jfSm a1.toInt = a1.toInt + 32) ∨ ((a1.toInt < 65 ∨ 90 < a1.toInt) ∧ jfSm a1.toInt = a1.toInt) := (by unfold jfSm; split <;> omega); refine ⟨?_, by omega, by omega, by omega, by omega, by omega, by omega, by omega⟩; exact jfIn_n (by omega) rfl (by omega) (by omega) (by omega)⟩, hh_6.rt (M1 := [(r0, 4, 5, .int pl), (r0, 4, 8, .int z_5), (r0, 4, 9, .int 0), (r0, 4, 10, .int dg), (r0, 4, 11, .int sv)]) [2, 0, 1, 5, 6] rfl ht⟩, by rw [ht]; try exact hh_6.1.1, fun q h9 hq => by rw [ht]; try exact hh_6.1.2.1 q h9 hq⟩) hh_6.1.2.2 dX2_isInName_141
      · skip
        have c_3' : il.toInt ≠ 0 := jb_eq_n (rfl) ((by decide)) c_3
        refine lv_aload_n hx hb dX2_isInName_75 rfl (lv_at hl 1 rfl) ?_
        refine j7_read hx hb hown hK (C := RX2) (T := TX2) (N := 12) rfl hly_4_8 hlk_54 (hh.at 3 rfl) dX2_isInName_76 ?_
        refine va_ldcS hx hb hown rstr60 dX2_isInName_79 ?_
        refine vp_callSi (W.runV (As := []) (rest := [.int sg, .ref r0]) ⟨hx, hb, hml, hown, hts⟩ (wJ0_length_8abf5 l dC dI ca base s.heap str60 14) (cwV 0 hts (jgV (jWr_18 _ (List.mem_of_getElem? (i := 11) rfl)) (jWr_5 _ (List.mem_of_getElem? (i := 13) rfl)) (jWr_5 _ (List.mem_of_getElem? (i := 14) rfl)) (jWr_5 _ (List.mem_of_getElem? (i := 15) rfl)) (jWr_5 _ (List.mem_of_getElem? (i := 16) rfl))) rfl rfl rfl (by decide +kernel) ⟨by rw [← hR]; exact Nat.le_of_ble_eq_true rfl, by rw [← hR]; exact Nat.le_of_ble_eq_true rfl⟩) ⟨fun a U g mk q => by obtain ⟨q0, q1, q2, qK, q9⟩ := q; exact ⟨q0, q1, (q2.moved (Vm.Alike.refl U.vm)), jG.calling g mk a qK, q9⟩, jStr_recv hstr60 hh.1, fun U hU hW => ⟨rfl, hU, (hstr60.moved hW.alike).kept hh.1.2.1, hG.step hW hU hh.1, by omega⟩⟩ rfl rfl hl.1 rfl (lv_room (Nat.le_of_ble_eq_true rfl)) dX2_isInName_81 ⟨Nat.zero_le _, Nat.zero_le _⟩) (fun r_10 hr_10 => ?_)
        refine lv_icmp_ge (tgt := 104) hx hb dX2_isInName_84 (by decide) (fun c_11 => ?_) (fun c_11 => ?_)
        · skip
          have c_11' : sg.toInt ≥ r_10.toInt := jb_ge (rfl) (rfl) c_11
          refine lv_iconst (v := 0) hx hb dX2_isInName_104 (by decide) ?_
          refine j7_put hx hb hown hK hh hB hAp hB4 (C := RX2) (T := TX2) (N := 12) rfl (by decide) hg_r0 (i := 9) (by decide) hly_4_9 rfl hlk_57 rfl (ty := .boolean) (v := .int 0) (by decide +kernel) (jb_nz (Or.inl rfl)) (jb_fz (Or.inl rfl)) (⟨_, rfl, (Or.inl rfl)⟩) rfl (L1 := [(r0, 4, 5, .int pl), (r0, 4, 6, .int to), (r0, 4, 2, .int ke), (r0, 4, 8, .int sg), (r0, 4, 10, .int dg), (r0, 4, 11, .int sv), (r0, 4, 7, .int fi)]) [0, 1, 2, 3, 5, 6, 7] rfl rfl rfl dX2_isInName_105 (fun H_12 locs_12 hh_12 => ?_)
          clear hh
          refine lv_aload_n hx hb dX2_isInName_108 rfl (lv_at hl 1 rfl) ?_
          refine lv_dup hx hb dX2_isInName_109 rfl ?_
          refine j7_read hx hb hown hK (C := RX2) (T := TX2) (N := 12) rfl hly_4_8 hlk_54 (hh_12.at 4 rfl) dX2_isInName_110 ?_
          refine lv_iconst (v := 1) hx hb dX2_isInName_113 (by decide) ?_
          refine lv_iadd hx hb dX2_isInName_114 ?_
          refine lv_topi (fun z_13 ez_13 => ?_)
          have hz_13 : z_13.toInt = sg.toInt + 1 := by rw [ez_13]; exact jb_iadd2 (rfl) ((by decide)) (by omega)
          refine j7_put hx hb hown hK hh_12 hB hAp hB4 (C := RX2) (T := TX2) (N := 12) rfl (by decide) hg_r0 (i := 8) (by decide) hly_4_8 rfl hlk_54 rfl (ty := .int) (v := .int z_13) (by decide +kernel) rfl rfl (⟨_, rfl⟩) rfl (L1 := [(r0, 4, 9, .int 0), (r0, 4, 5, .int pl), (r0, 4, 6, .int to), (r0, 4, 2, .int ke), (r0, 4, 10, .int dg), (r0, 4, 11, .int sv), (r0, 4, 7, .int fi)]) [0, 1, 2, 3, 5, 6, 7] rfl rfl rfl dX2_isInName_115 (fun H_14 locs_14 hh_14 => ?_)
          clear hh_12
          refine lv_iload_n hx hb dX2_isInName_118 rfl (lv_at hl 0 rfl) ?_
          refine lv_bipush (v := 45) hx hb dX2_isInName_119 (by decide) ?_
          refine lv_icmp_eq (tgt := 136) hx hb dX2_isInName_121 (by decide) (fun c_15 => ?_) (fun c_15 => ?_)
          · skip
            have c_15' : a1.toInt = 45 := jb_eq (rfl) ((by decide)) c_15
            refine lv_iconst (v := 1) hx hb dX2_isInName_136 (by decide) ?_
            refine lv_goto (tgt := 141) hx hb dX2_isInName_137 (by decide) ?_
            rw [hQ]
            exact W.zret (v := 1) hx hb hr (jb_nz (Or.inr rfl)) (fun t ht hW => ⟨⟨1, (pl, z_13, 0, dg, sv), rfl, ⟨(Or.inr rfl), by (try dsimp only); have hsm : (65 ≤ a1.toInt ∧ a1.toInt ≤ 90 ∧ jfSm a1.toInt = a1.toInt + 32) ∨ ((a1.toInt < 65 ∨ 90 < a1.toInt) ∧ jfSm a1.toInt = a1.toInt) := (by unfold jfSm; split <;> omega); refine ⟨?_, by omega, by omega, by omega, by omega, by omega, by omega, by omega⟩; exact jfIn_n (by omega) rfl (by omega) (by omega) (by omega)⟩, hh_14.rt (M1 := [(r0, 4, 5, .int pl), (r0, 4, 8, .int z_13), (r0, 4, 9, .int 0), (r0, 4, 10, .int dg), (r0, 4, 11, .int sv)]) [2, 0, 1, 5, 6] rfl ht⟩, by rw [ht]; try exact hh_14.1.1, fun q h9 hq => by rw [ht]; try exact hh_14.1.2.1 q h9 hq⟩) hh_14.1.2.2 dX2_isInName_141
          · skip
            have c_15' : a1.toInt ≠ 45 := jb_eq_n (rfl) ((by decide)) c_15
            refine lv_iload_n hx hb dX2_isInName_124 rfl (lv_at hl 0 rfl) ?_
            refine lv_bipush (v := 97) hx hb dX2_isInName_125 (by decide) ?_
            refine lv_icmp_lt (tgt := 140) hx hb dX2_isInName_127 (by decide) (fun c_16 => ?_) (fun c_16 => ?_)
            · skip
              have c_16' : a1.toInt < 97 := jb_lt (rfl) ((by decide)) c_16
              refine lv_iconst (v := 0) hx hb dX2_isInName_140 (by decide) ?_
              rw [hQ]
              exact W.zret (v := 0) hx hb hr (jb_nz (Or.inl rfl)) (fun t ht hW => ⟨⟨0, (pl, z_13, 0, dg, sv), rfl, ⟨(Or.inl rfl), by (try dsimp only); have hsm : (65 ≤ a1.toInt ∧ a1.toInt ≤ 90 ∧ jfSm a1.toInt = a1.toInt + 32) ∨ ((a1.toInt < 65 ∨ 90 < a1.toInt) ∧ jfSm a1.toInt = a1.toInt) := (by unfold jfSm; split <;> omega); refine ⟨?_, by omega, by omega, by omega, by omega, by omega, by omega, by omega⟩; exact jfIn_n (by omega) rfl (by omega) (by omega) (by omega)⟩, hh_14.rt (M1 := [(r0, 4, 5, .int pl), (r0, 4, 8, .int z_13), (r0, 4, 9, .int 0), (r0, 4, 10, .int dg), (r0, 4, 11, .int sv)]) [2, 0, 1, 5, 6] rfl ht⟩, by rw [ht]; try exact hh_14.1.1, fun q h9 hq => by rw [ht]; try exact hh_14.1.2.1 q h9 hq⟩) hh_14.1.2.2 dX2_isInName_141
            · skip
              have c_16' : a1.toInt ≥ 97 := jb_lt_n (rfl) ((by decide)) c_16
              refine lv_iload_n hx hb dX2_isInName_130 rfl (lv_at hl 0 rfl) ?_
              refine lv_bipush (v := 122) hx hb dX2_isInName_131 (by decide) ?_
              refine lv_icmp_gt (tgt := 140) hx hb dX2_isInName_133 (by decide) (fun c_17 => ?_) (fun c_17 => ?_)
              · skip
                have c_17' : a1.toInt > 122 := jb_gt (rfl) ((by decide)) c_17
                refine lv_iconst (v := 0) hx hb dX2_isInName_140 (by decide) ?_
                rw [hQ]
                exact W.zret (v := 0) hx hb hr (jb_nz (Or.inl rfl)) (fun t ht hW => ⟨⟨0, (pl, z_13, 0, dg, sv), rfl, ⟨(Or.inl rfl), by (try dsimp only); have hsm : (65 ≤ a1.toInt ∧ a1.toInt ≤ 90 ∧ jfSm a1.toInt = a1.toInt + 32) ∨ ((a1.toInt < 65 ∨ 90 < a1.toInt) ∧ jfSm a1.toInt = a1.toInt) := (by unfold jfSm; split <;> omega); refine ⟨?_, by omega, by omega, by omega, by omega, by omega, by omega, by omega⟩; exact jfIn_n (by omega) rfl (by omega) (by omega) (by omega)⟩, hh_14.rt (M1 := [(r0, 4, 5, .int pl), (r0, 4, 8, .int z_13), (r0, 4, 9, .int 0), (r0, 4, 10, .int dg), (r0, 4, 11, .int sv)]) [2, 0, 1, 5, 6] rfl ht⟩, by rw [ht]; try exact hh_14.1.1, fun q h9 hq => by rw [ht]; try exact hh_14.1.2.1 q h9 hq⟩) hh_14.1.2.2 dX2_isInName_141
              · skip
                have c_17' : a1.toInt ≤ 122 := jb_gt_n (rfl) ((by decide)) c_17
                refine lv_iconst (v := 1) hx hb dX2_isInName_136 (by decide) ?_
                refine lv_goto (tgt := 141) hx hb dX2_isInName_137 (by decide) ?_
                rw [hQ]
                exact W.zret (v := 1) hx hb hr (jb_nz (Or.inr rfl)) (fun t ht hW => ⟨⟨1, (pl, z_13, 0, dg, sv), rfl, ⟨(Or.inr rfl), by (try dsimp only); have hsm : (65 ≤ a1.toInt ∧ a1.toInt ≤ 90 ∧ jfSm a1.toInt = a1.toInt + 32) ∨ ((a1.toInt < 65 ∨ 90 < a1.toInt) ∧ jfSm a1.toInt = a1.toInt) := (by unfold jfSm; split <;> omega); refine ⟨?_, by omega, by omega, by omega, by omega, by omega, by omega, by omega⟩; exact jfIn_n (by omega) rfl (by omega) (by omega) (by omega)⟩, hh_14.rt (M1 := [(r0, 4, 5, .int pl), (r0, 4, 8, .int z_13), (r0, 4, 9, .int 0), (r0, 4, 10, .int dg), (r0, 4, 11, .int sv)]) [2, 0, 1, 5, 6] rfl ht⟩, by rw [ht]; try exact hh_14.1.1, fun q h9 hq => by rw [ht]; try exact hh_14.1.2.1 q h9 hq⟩) hh_14.1.2.2 dX2_isInName_141
        · skip
          have c_11' : sg.toInt < r_10.toInt := jb_ge_n (rfl) (rfl) c_11
          refine va_ldcS hx hb hown rstr60 dX2_isInName_87 ?_
          refine lv_aload_n hx hb dX2_isInName_89 rfl (lv_at hl 1 rfl) ?_
          refine j7_read hx hb hown hK (C := RX2) (T := TX2) (N := 12) rfl hly_4_8 hlk_54 (hh.at 3 rfl) dX2_isInName_90 ?_
          refine vp_callSi (W.runV (As := [.int sg]) (rest := [.ref r0]) ⟨hx, hb, hml, hown, hts⟩ (eJ0_charAt_5068e l dC dI ca base s.heap str60 14 (jChT "content-length") sg) (cwV 1 hts (jgV (jWr_18 _ (List.mem_of_getElem? (i := 12) rfl)) (jWr_6 _ (List.mem_of_getElem? (i := 1) rfl)) (jWr_6 _ (List.mem_of_getElem? (i := 2) rfl)) (jWr_5 _ (List.mem_of_getElem? (i := 15) rfl)) (jWr_6 _ (List.mem_of_getElem? (i := 3) rfl))) rfl rfl rfl (by decide +kernel) ⟨by rw [← hR]; exact Nat.le_of_ble_eq_true rfl, by rw [← hR]; exact Nat.le_of_ble_eq_true rfl⟩) ⟨fun a U g mk q => by obtain ⟨q0, q1, q2, qK, q9⟩ := q; exact ⟨q0, q1, (q2.moved (Vm.Alike.refl U.vm)), jG.calling g mk a qK, q9⟩, jStr_recv hstr60 hh.1, fun U hU hW => ⟨rfl, hU, (hTstr60.moved hW.alike).kept hh.1.2.1, hG.step hW hU hh.1, ⟨by omega, by omega, by omega⟩⟩⟩ rfl rfl hl.1 rfl (lv_room (Nat.le_of_ble_eq_true rfl)) dX2_isInName_93 ⟨Nat.zero_le _, Nat.zero_le _⟩) (fun r_18 hr_18 => ?_)
          refine lv_iload_n hx hb dX2_isInName_96 rfl (lv_at hl 0 rfl) ?_
          have hch : r_18.toInt = jfC sg.toInt := by unfold jfC; rw [hr_18]
          refine lv_icmp_ne (tgt := 104) hx hb dX2_isInName_97 (by decide) (fun c_19 => ?_) (fun c_19 => ?_)
          · skip
            have c_19' : r_18.toInt ≠ a1.toInt := jb_ne (rfl) (rfl) c_19
            refine lv_iconst (v := 0) hx hb dX2_isInName_104 (by decide) ?_
            refine j7_put hx hb hown hK hh hB hAp hB4 (C := RX2) (T := TX2) (N := 12) rfl (by decide) hg_r0 (i := 9) (by decide) hly_4_9 rfl hlk_57 rfl (ty := .boolean) (v := .int 0) (by decide +kernel) (jb_nz (Or.inl rfl)) (jb_fz (Or.inl rfl)) (⟨_, rfl, (Or.inl rfl)⟩) rfl (L1 := [(r0, 4, 5, .int pl), (r0, 4, 6, .int to), (r0, 4, 2, .int ke), (r0, 4, 8, .int sg), (r0, 4, 10, .int dg), (r0, 4, 11, .int sv), (r0, 4, 7, .int fi)]) [0, 1, 2, 3, 5, 6, 7] rfl rfl rfl dX2_isInName_105 (fun H_20 locs_20 hh_20 => ?_)
            clear hh
            refine lv_aload_n hx hb dX2_isInName_108 rfl (lv_at hl 1 rfl) ?_
            refine lv_dup hx hb dX2_isInName_109 rfl ?_
            refine j7_read hx hb hown hK (C := RX2) (T := TX2) (N := 12) rfl hly_4_8 hlk_54 (hh_20.at 4 rfl) dX2_isInName_110 ?_
            refine lv_iconst (v := 1) hx hb dX2_isInName_113 (by decide) ?_
            refine lv_iadd hx hb dX2_isInName_114 ?_
            refine lv_topi (fun z_21 ez_21 => ?_)
            have hz_21 : z_21.toInt = sg.toInt + 1 := by rw [ez_21]; exact jb_iadd2 (rfl) ((by decide)) (by omega)
            refine j7_put hx hb hown hK hh_20 hB hAp hB4 (C := RX2) (T := TX2) (N := 12) rfl (by decide) hg_r0 (i := 8) (by decide) hly_4_8 rfl hlk_54 rfl (ty := .int) (v := .int z_21) (by decide +kernel) rfl rfl (⟨_, rfl⟩) rfl (L1 := [(r0, 4, 9, .int 0), (r0, 4, 5, .int pl), (r0, 4, 6, .int to), (r0, 4, 2, .int ke), (r0, 4, 10, .int dg), (r0, 4, 11, .int sv), (r0, 4, 7, .int fi)]) [0, 1, 2, 3, 5, 6, 7] rfl rfl rfl dX2_isInName_115 (fun H_22 locs_22 hh_22 => ?_)
            clear hh_20
            refine lv_iload_n hx hb dX2_isInName_118 rfl (lv_at hl 0 rfl) ?_
            refine lv_bipush (v := 45) hx hb dX2_isInName_119 (by decide) ?_
            refine lv_icmp_eq (tgt := 136) hx hb dX2_isInName_121 (by decide) (fun c_23 => ?_) (fun c_23 => ?_)
            · skip
              have c_23' : a1.toInt = 45 := jb_eq (rfl) ((by decide)) c_23
              refine lv_iconst (v := 1) hx hb dX2_isInName_136 (by decide) ?_
              refine lv_goto (tgt := 141) hx hb dX2_isInName_137 (by decide) ?_
              rw [hQ]
              exact W.zret (v := 1) hx hb hr (jb_nz (Or.inr rfl)) (fun t ht hW => ⟨⟨1, (pl, z_21, 0, dg, sv), rfl, ⟨(Or.inr rfl), by (try dsimp only); have hsm : (65 ≤ a1.toInt ∧ a1.toInt ≤ 90 ∧ jfSm a1.toInt = a1.toInt + 32) ∨ ((a1.toInt < 65 ∨ 90 < a1.toInt) ∧ jfSm a1.toInt = a1.toInt) := (by unfold jfSm; split <;> omega); refine ⟨?_, by omega, by omega, by omega, by omega, by omega, by omega, by omega⟩; exact jfIn_n (by omega) rfl (by omega) (by omega) (by omega)⟩, hh_22.rt (M1 := [(r0, 4, 5, .int pl), (r0, 4, 8, .int z_21), (r0, 4, 9, .int 0), (r0, 4, 10, .int dg), (r0, 4, 11, .int sv)]) [2, 0, 1, 5, 6] rfl ht⟩, by rw [ht]; try exact hh_22.1.1, fun q h9 hq => by rw [ht]; try exact hh_22.1.2.1 q h9 hq⟩) hh_22.1.2.2 dX2_isInName_141
            · skip
              have c_23' : a1.toInt ≠ 45 := jb_eq_n (rfl) ((by decide)) c_23
              refine lv_iload_n hx hb dX2_isInName_124 rfl (lv_at hl 0 rfl) ?_
              refine lv_bipush (v := 97) hx hb dX2_isInName_125 (by decide) ?_
              refine lv_icmp_lt (tgt := 140) hx hb dX2_isInName_127 (by decide) (fun c_24 => ?_) (fun c_24 => ?_)
              · skip
                have c_24' : a1.toInt < 97 := jb_lt (rfl) ((by decide)) c_24
                refine lv_iconst (v := 0) hx hb dX2_isInName_140 (by decide) ?_
                rw [hQ]
                exact W.zret (v := 0) hx hb hr (jb_nz (Or.inl rfl)) (fun t ht hW => ⟨⟨0, (pl, z_21, 0, dg, sv), rfl, ⟨(Or.inl rfl), by (try dsimp only); have hsm : (65 ≤ a1.toInt ∧ a1.toInt ≤ 90 ∧ jfSm a1.toInt = a1.toInt + 32) ∨ ((a1.toInt < 65 ∨ 90 < a1.toInt) ∧ jfSm a1.toInt = a1.toInt) := (by unfold jfSm; split <;> omega); refine ⟨?_, by omega, by omega, by omega, by omega, by omega, by omega, by omega⟩; exact jfIn_n (by omega) rfl (by omega) (by omega) (by omega)⟩, hh_22.rt (M1 := [(r0, 4, 5, .int pl), (r0, 4, 8, .int z_21), (r0, 4, 9, .int 0), (r0, 4, 10, .int dg), (r0, 4, 11, .int sv)]) [2, 0, 1, 5, 6] rfl ht⟩, by rw [ht]; try exact hh_22.1.1, fun q h9 hq => by rw [ht]; try exact hh_22.1.2.1 q h9 hq⟩) hh_22.1.2.2 dX2_isInName_141
              · skip
                have c_24' : a1.toInt ≥ 97 := jb_lt_n (rfl) ((by decide)) c_24
                refine lv_iload_n hx hb dX2_isInName_130 rfl (lv_at hl 0 rfl) ?_
                refine lv_bipush (v := 122) hx hb dX2_isInName_131 (by decide) ?_
                refine lv_icmp_gt (tgt := 140) hx hb dX2_isInName_133 (by decide) (fun c_25 => ?_) (fun c_25 => ?_)
                · skip
                  have c_25' : a1.toInt > 122 := jb_gt (rfl) ((by decide)) c_25
                  refine lv_iconst (v := 0) hx hb dX2_isInName_140 (by decide) ?_
                  rw [hQ]
                  exact W.zret (v := 0) hx hb hr (jb_nz (Or.inl rfl)) (fun t ht hW => ⟨⟨0, (pl, z_21, 0, dg, sv), rfl, ⟨(Or.inl rfl), by (try dsimp only); have hsm : (65 ≤ a1.toInt ∧ a1.toInt ≤ 90 ∧ jfSm a1.toInt = a1.toInt + 32) ∨ ((a1.toInt < 65 ∨ 90 < a1.toInt) ∧ jfSm a1.toInt = a1.toInt) := (by unfold jfSm; split <;> omega); refine ⟨?_, by omega, by omega, by omega, by omega, by omega, by omega, by omega⟩; exact jfIn_n (by omega) rfl (by omega) (by omega) (by omega)⟩, hh_22.rt (M1 := [(r0, 4, 5, .int pl), (r0, 4, 8, .int z_21), (r0, 4, 9, .int 0), (r0, 4, 10, .int dg), (r0, 4, 11, .int sv)]) [2, 0, 1, 5, 6] rfl ht⟩, by rw [ht]; try exact hh_22.1.1, fun q h9 hq => by rw [ht]; try exact hh_22.1.2.1 q h9 hq⟩) hh_22.1.2.2 dX2_isInName_141
                · skip
                  have c_25' : a1.toInt ≤ 122 := jb_gt_n (rfl) ((by decide)) c_25
                  refine lv_iconst (v := 1) hx hb dX2_isInName_136 (by decide) ?_
                  refine lv_goto (tgt := 141) hx hb dX2_isInName_137 (by decide) ?_
                  rw [hQ]
                  exact W.zret (v := 1) hx hb hr (jb_nz (Or.inr rfl)) (fun t ht hW => ⟨⟨1, (pl, z_21, 0, dg, sv), rfl, ⟨(Or.inr rfl), by (try dsimp only); have hsm : (65 ≤ a1.toInt ∧ a1.toInt ≤ 90 ∧ jfSm a1.toInt = a1.toInt + 32) ∨ ((a1.toInt < 65 ∨ 90 < a1.toInt) ∧ jfSm a1.toInt = a1.toInt) := (by unfold jfSm; split <;> omega); refine ⟨?_, by omega, by omega, by omega, by omega, by omega, by omega, by omega⟩; exact jfIn_n (by omega) rfl (by omega) (by omega) (by omega)⟩, hh_22.rt (M1 := [(r0, 4, 5, .int pl), (r0, 4, 8, .int z_21), (r0, 4, 9, .int 0), (r0, 4, 10, .int dg), (r0, 4, 11, .int sv)]) [2, 0, 1, 5, 6] rfl ht⟩, by rw [ht]; try exact hh_22.1.1, fun q h9 hq => by rw [ht]; try exact hh_22.1.2.1 q h9 hq⟩) hh_22.1.2.2 dX2_isInName_141
          · skip
            have c_19' : r_18.toInt = a1.toInt := jb_ne_n (rfl) (rfl) c_19
            refine lv_iconst (v := 1) hx hb dX2_isInName_100 (by decide) ?_
            refine lv_goto (tgt := 105) hx hb dX2_isInName_101 (by decide) ?_
            refine j7_put hx hb hown hK hh hB hAp hB4 (C := RX2) (T := TX2) (N := 12) rfl (by decide) hg_r0 (i := 9) (by decide) hly_4_9 rfl hlk_57 rfl (ty := .boolean) (v := .int 1) (by decide +kernel) (jb_nz (Or.inr rfl)) (jb_fz (Or.inr rfl)) (⟨_, rfl, (Or.inr rfl)⟩) rfl (L1 := [(r0, 4, 5, .int pl), (r0, 4, 6, .int to), (r0, 4, 2, .int ke), (r0, 4, 8, .int sg), (r0, 4, 10, .int dg), (r0, 4, 11, .int sv), (r0, 4, 7, .int fi)]) [0, 1, 2, 3, 5, 6, 7] rfl rfl rfl dX2_isInName_105 (fun H_26 locs_26 hh_26 => ?_)
            clear hh
            refine lv_aload_n hx hb dX2_isInName_108 rfl (lv_at hl 1 rfl) ?_
            refine lv_dup hx hb dX2_isInName_109 rfl ?_
            refine j7_read hx hb hown hK (C := RX2) (T := TX2) (N := 12) rfl hly_4_8 hlk_54 (hh_26.at 4 rfl) dX2_isInName_110 ?_
            refine lv_iconst (v := 1) hx hb dX2_isInName_113 (by decide) ?_
            refine lv_iadd hx hb dX2_isInName_114 ?_
            refine lv_topi (fun z_27 ez_27 => ?_)
            have hz_27 : z_27.toInt = sg.toInt + 1 := by rw [ez_27]; exact jb_iadd2 (rfl) ((by decide)) (by omega)
            refine j7_put hx hb hown hK hh_26 hB hAp hB4 (C := RX2) (T := TX2) (N := 12) rfl (by decide) hg_r0 (i := 8) (by decide) hly_4_8 rfl hlk_54 rfl (ty := .int) (v := .int z_27) (by decide +kernel) rfl rfl (⟨_, rfl⟩) rfl (L1 := [(r0, 4, 9, .int 1), (r0, 4, 5, .int pl), (r0, 4, 6, .int to), (r0, 4, 2, .int ke), (r0, 4, 10, .int dg), (r0, 4, 11, .int sv), (r0, 4, 7, .int fi)]) [0, 1, 2, 3, 5, 6, 7] rfl rfl rfl dX2_isInName_115 (fun H_28 locs_28 hh_28 => ?_)
            clear hh_26
            refine lv_iload_n hx hb dX2_isInName_118 rfl (lv_at hl 0 rfl) ?_
            refine lv_bipush (v := 45) hx hb dX2_isInName_119 (by decide) ?_
            refine lv_icmp_eq (tgt := 136) hx hb dX2_isInName_121 (by decide) (fun c_29 => ?_) (fun c_29 => ?_)
            · skip
              have c_29' : a1.toInt = 45 := jb_eq (rfl) ((by decide)) c_29
              refine lv_iconst (v := 1) hx hb dX2_isInName_136 (by decide) ?_
              refine lv_goto (tgt := 141) hx hb dX2_isInName_137 (by decide) ?_
              rw [hQ]
              exact W.zret (v := 1) hx hb hr (jb_nz (Or.inr rfl)) (fun t ht hW => ⟨⟨1, (pl, z_27, 1, dg, sv), rfl, ⟨(Or.inr rfl), by (try dsimp only); have hsm : (65 ≤ a1.toInt ∧ a1.toInt ≤ 90 ∧ jfSm a1.toInt = a1.toInt + 32) ∨ ((a1.toInt < 65 ∨ 90 < a1.toInt) ∧ jfSm a1.toInt = a1.toInt) := (by unfold jfSm; split <;> omega); refine ⟨?_, by omega, by omega, by omega, by omega, by omega, by omega, by omega⟩; exact jfIn_n (by omega) rfl (by omega) (by omega) (by omega)⟩, hh_28.rt (M1 := [(r0, 4, 5, .int pl), (r0, 4, 8, .int z_27), (r0, 4, 9, .int 1), (r0, 4, 10, .int dg), (r0, 4, 11, .int sv)]) [2, 0, 1, 5, 6] rfl ht⟩, by rw [ht]; try exact hh_28.1.1, fun q h9 hq => by rw [ht]; try exact hh_28.1.2.1 q h9 hq⟩) hh_28.1.2.2 dX2_isInName_141
            · skip
              have c_29' : a1.toInt ≠ 45 := jb_eq_n (rfl) ((by decide)) c_29
              refine lv_iload_n hx hb dX2_isInName_124 rfl (lv_at hl 0 rfl) ?_
              refine lv_bipush (v := 97) hx hb dX2_isInName_125 (by decide) ?_
              refine lv_icmp_lt (tgt := 140) hx hb dX2_isInName_127 (by decide) (fun c_30 => ?_) (fun c_30 => ?_)
              · skip
                have c_30' : a1.toInt < 97 := jb_lt (rfl) ((by decide)) c_30
                refine lv_iconst (v := 0) hx hb dX2_isInName_140 (by decide) ?_
                rw [hQ]
                exact W.zret (v := 0) hx hb hr (jb_nz (Or.inl rfl)) (fun t ht hW => ⟨⟨0, (pl, z_27, 1, dg, sv), rfl, ⟨(Or.inl rfl), by (try dsimp only); have hsm : (65 ≤ a1.toInt ∧ a1.toInt ≤ 90 ∧ jfSm a1.toInt = a1.toInt + 32) ∨ ((a1.toInt < 65 ∨ 90 < a1.toInt) ∧ jfSm a1.toInt = a1.toInt) := (by unfold jfSm; split <;> omega); refine ⟨?_, by omega, by omega, by omega, by omega, by omega, by omega, by omega⟩; exact jfIn_n (by omega) rfl (by omega) (by omega) (by omega)⟩, hh_28.rt (M1 := [(r0, 4, 5, .int pl), (r0, 4, 8, .int z_27), (r0, 4, 9, .int 1), (r0, 4, 10, .int dg), (r0, 4, 11, .int sv)]) [2, 0, 1, 5, 6] rfl ht⟩, by rw [ht]; try exact hh_28.1.1, fun q h9 hq => by rw [ht]; try exact hh_28.1.2.1 q h9 hq⟩) hh_28.1.2.2 dX2_isInName_141
              · skip
                have c_30' : a1.toInt ≥ 97 := jb_lt_n (rfl) ((by decide)) c_30
                refine lv_iload_n hx hb dX2_isInName_130 rfl (lv_at hl 0 rfl) ?_
                refine lv_bipush (v := 122) hx hb dX2_isInName_131 (by decide) ?_
                refine lv_icmp_gt (tgt := 140) hx hb dX2_isInName_133 (by decide) (fun c_31 => ?_) (fun c_31 => ?_)
                · skip
                  have c_31' : a1.toInt > 122 := jb_gt (rfl) ((by decide)) c_31
                  refine lv_iconst (v := 0) hx hb dX2_isInName_140 (by decide) ?_
                  rw [hQ]
                  exact W.zret (v := 0) hx hb hr (jb_nz (Or.inl rfl)) (fun t ht hW => ⟨⟨0, (pl, z_27, 1, dg, sv), rfl, ⟨(Or.inl rfl), by (try dsimp only); have hsm : (65 ≤ a1.toInt ∧ a1.toInt ≤ 90 ∧ jfSm a1.toInt = a1.toInt + 32) ∨ ((a1.toInt < 65 ∨ 90 < a1.toInt) ∧ jfSm a1.toInt = a1.toInt) := (by unfold jfSm; split <;> omega); refine ⟨?_, by omega, by omega, by omega, by omega, by omega, by omega, by omega⟩; exact jfIn_n (by omega) rfl (by omega) (by omega) (by omega)⟩, hh_28.rt (M1 := [(r0, 4, 5, .int pl), (r0, 4, 8, .int z_27), (r0, 4, 9, .int 1), (r0, 4, 10, .int dg), (r0, 4, 11, .int sv)]) [2, 0, 1, 5, 6] rfl ht⟩, by rw [ht]; try exact hh_28.1.1, fun q h9 hq => by rw [ht]; try exact hh_28.1.2.1 q h9 hq⟩) hh_28.1.2.2 dX2_isInName_141
                · skip
                  have c_31' : a1.toInt ≤ 122 := jb_gt_n (rfl) ((by decide)) c_31
                  refine lv_iconst (v := 1) hx hb dX2_isInName_136 (by decide) ?_
                  refine lv_goto (tgt := 141) hx hb dX2_isInName_137 (by decide) ?_
                  rw [hQ]
                  exact W.zret (v := 1) hx hb hr (jb_nz (Or.inr rfl)) (fun t ht hW => ⟨⟨1, (pl, z_27, 1, dg, sv), rfl, ⟨(Or.inr rfl), by (try dsimp only); have hsm : (65 ≤ a1.toInt ∧ a1.toInt ≤ 90 ∧ jfSm a1.toInt = a1.toInt + 32) ∨ ((a1.toInt < 65 ∨ 90 < a1.toInt) ∧ jfSm a1.toInt = a1.toInt) := (by unfold jfSm; split <;> omega); refine ⟨?_, by omega, by omega, by omega, by omega, by omega, by omega, by omega⟩; exact jfIn_n (by omega) rfl (by omega) (by omega) (by omega)⟩, hh_28.rt (M1 := [(r0, 4, 5, .int pl), (r0, 4, 8, .int z_27), (r0, 4, 9, .int 1), (r0, 4, 10, .int dg), (r0, 4, 11, .int sv)]) [2, 0, 1, 5, 6] rfl ht⟩, by rw [ht]; try exact hh_28.1.1, fun q h9 hq => by rw [ht]; try exact hh_28.1.2.1 q h9 hq⟩) hh_28.1.2.2 dX2_isInName_141
    · skip
      have c_2' : a1.toInt ≥ 65 := jb_lt_n (rfl) ((by decide)) c_2
      refine lv_iload_n hx hb dX2_isInName_52 rfl (lv_at hl 1 rfl) ?_
      refine lv_bipush (v := 90) hx hb dX2_isInName_53 (by decide) ?_
      refine lv_icmp_gt (tgt := 65) hx hb dX2_isInName_55 (by decide) (fun c_32 => ?_) (fun c_32 => ?_)
      · skip
        have c_32' : a1.toInt > 90 := jb_gt (rfl) ((by decide)) c_32
        refine lv_iload_n hx hb dX2_isInName_65 rfl (lv_at hl 1 rfl) ?_
        refine lv_istore_n (lv' := [(2, .int a1), (0, .ref r0), (1, .int a1)]) hx hb dX2_isInName_66 rfl hl (by decide) rfl (fun ls hl => ?_)
        refine lv_aload_n hx hb dX2_isInName_67 rfl (lv_at hl 1 rfl) ?_
        refine lv_aload_n hx hb dX2_isInName_68 rfl (lv_at hl 1 rfl) ?_
        refine j7_read hx hb hown hK (C := RX2) (T := TX2) (N := 12) rfl hly_4_9 hlk_57 (hh.at 4 rfl) dX2_isInName_69 ?_
        refine lv_if_eq (tgt := 104) hx hb dX2_isInName_72 (by decide) (fun c_33 => ?_) (fun c_33 => ?_)
        · skip
          have c_33' : il.toInt = 0 := jb_eq (rfl) ((by decide)) c_33
          refine lv_iconst (v := 0) hx hb dX2_isInName_104 (by decide) ?_
          refine j7_put hx hb hown hK hh hB hAp hB4 (C := RX2) (T := TX2) (N := 12) rfl (by decide) hg_r0 (i := 9) (by decide) hly_4_9 rfl hlk_57 rfl (ty := .boolean) (v := .int 0) (by decide +kernel) (jb_nz (Or.inl rfl)) (jb_fz (Or.inl rfl)) (⟨_, rfl, (Or.inl rfl)⟩) rfl (L1 := [(r0, 4, 5, .int pl), (r0, 4, 6, .int to), (r0, 4, 2, .int ke), (r0, 4, 8, .int sg), (r0, 4, 10, .int dg), (r0, 4, 11, .int sv), (r0, 4, 7, .int fi)]) [0, 1, 2, 3, 5, 6, 7] rfl rfl rfl dX2_isInName_105 (fun H_34 locs_34 hh_34 => ?_)
          clear hh
          refine lv_aload_n hx hb dX2_isInName_108 rfl (lv_at hl 1 rfl) ?_
          refine lv_dup hx hb dX2_isInName_109 rfl ?_
          refine j7_read hx hb hown hK (C := RX2) (T := TX2) (N := 12) rfl hly_4_8 hlk_54 (hh_34.at 4 rfl) dX2_isInName_110 ?_
          refine lv_iconst (v := 1) hx hb dX2_isInName_113 (by decide) ?_
          refine lv_iadd hx hb dX2_isInName_114 ?_
          refine lv_topi (fun z_35 ez_35 => ?_)
          have hz_35 : z_35.toInt = sg.toInt + 1 := by rw [ez_35]; exact jb_iadd2 (rfl) ((by decide)) (by omega)
          refine j7_put hx hb hown hK hh_34 hB hAp hB4 (C := RX2) (T := TX2) (N := 12) rfl (by decide) hg_r0 (i := 8) (by decide) hly_4_8 rfl hlk_54 rfl (ty := .int) (v := .int z_35) (by decide +kernel) rfl rfl (⟨_, rfl⟩) rfl (L1 := [(r0, 4, 9, .int 0), (r0, 4, 5, .int pl), (r0, 4, 6, .int to), (r0, 4, 2, .int ke), (r0, 4, 10, .int dg), (r0, 4, 11, .int sv), (r0, 4, 7, .int fi)]) [0, 1, 2, 3, 5, 6, 7] rfl rfl rfl dX2_isInName_115 (fun H_36 locs_36 hh_36 => ?_)
          clear hh_34
          refine lv_iload_n hx hb dX2_isInName_118 rfl (lv_at hl 0 rfl) ?_
          refine lv_bipush (v := 45) hx hb dX2_isInName_119 (by decide) ?_
          refine lv_icmp_eq (tgt := 136) hx hb dX2_isInName_121 (by decide) (fun c_37 => ?_) (fun c_37 => ?_)
          · skip
            have c_37' : a1.toInt = 45 := jb_eq (rfl) ((by decide)) c_37
            refine lv_iconst (v := 1) hx hb dX2_isInName_136 (by decide) ?_
            refine lv_goto (tgt := 141) hx hb dX2_isInName_137 (by decide) ?_
            rw [hQ]
            exact W.zret (v := 1) hx hb hr (jb_nz (Or.inr rfl)) (fun t ht hW => ⟨⟨1, (pl, z_35, 0, dg, sv), rfl, ⟨(Or.inr rfl), by (try dsimp only); have hsm : (65 ≤ a1.toInt ∧ a1.toInt ≤ 90 ∧ jfSm a1.toInt = a1.toInt + 32) ∨ ((a1.toInt < 65 ∨ 90 < a1.toInt) ∧ jfSm a1.toInt = a1.toInt) := (by unfold jfSm; split <;> omega); refine ⟨?_, by omega, by omega, by omega, by omega, by omega, by omega, by omega⟩; exact jfIn_n (by omega) rfl (by omega) (by omega) (by omega)⟩, hh_36.rt (M1 := [(r0, 4, 5, .int pl), (r0, 4, 8, .int z_35), (r0, 4, 9, .int 0), (r0, 4, 10, .int dg), (r0, 4, 11, .int sv)]) [2, 0, 1, 5, 6] rfl ht⟩, by rw [ht]; try exact hh_36.1.1, fun q h9 hq => by rw [ht]; try exact hh_36.1.2.1 q h9 hq⟩) hh_36.1.2.2 dX2_isInName_141
          · skip
            have c_37' : a1.toInt ≠ 45 := jb_eq_n (rfl) ((by decide)) c_37
            refine lv_iload_n hx hb dX2_isInName_124 rfl (lv_at hl 0 rfl) ?_
            refine lv_bipush (v := 97) hx hb dX2_isInName_125 (by decide) ?_
            refine lv_icmp_lt (tgt := 140) hx hb dX2_isInName_127 (by decide) (fun c_38 => ?_) (fun c_38 => ?_)
            · skip
              have c_38' : a1.toInt < 97 := jb_lt (rfl) ((by decide)) c_38
              refine lv_iconst (v := 0) hx hb dX2_isInName_140 (by decide) ?_
              rw [hQ]
              exact W.zret (v := 0) hx hb hr (jb_nz (Or.inl rfl)) (fun t ht hW => ⟨⟨0, (pl, z_35, 0, dg, sv), rfl, ⟨(Or.inl rfl), by (try dsimp only); have hsm : (65 ≤ a1.toInt ∧ a1.toInt ≤ 90 ∧ jfSm a1.toInt = a1.toInt + 32) ∨ ((a1.toInt < 65 ∨ 90 < a1.toInt) ∧ jfSm a1.toInt = a1.toInt) := (by unfold jfSm; split <;> omega); refine ⟨?_, by omega, by omega, by omega, by omega, by omega, by omega, by omega⟩; exact jfIn_n (by omega) rfl (by omega) (by omega) (by omega)⟩, hh_36.rt (M1 := [(r0, 4, 5, .int pl), (r0, 4, 8, .int z_35), (r0, 4, 9, .int 0), (r0, 4, 10, .int dg), (r0, 4, 11, .int sv)]) [2, 0, 1, 5, 6] rfl ht⟩, by rw [ht]; try exact hh_36.1.1, fun q h9 hq => by rw [ht]; try exact hh_36.1.2.1 q h9 hq⟩) hh_36.1.2.2 dX2_isInName_141
            · skip
              have c_38' : a1.toInt ≥ 97 := jb_lt_n (rfl) ((by decide)) c_38
              refine lv_iload_n hx hb dX2_isInName_130 rfl (lv_at hl 0 rfl) ?_
              refine lv_bipush (v := 122) hx hb dX2_isInName_131 (by decide) ?_
              refine lv_icmp_gt (tgt := 140) hx hb dX2_isInName_133 (by decide) (fun c_39 => ?_) (fun c_39 => ?_)
              · skip
                have c_39' : a1.toInt > 122 := jb_gt (rfl) ((by decide)) c_39
                refine lv_iconst (v := 0) hx hb dX2_isInName_140 (by decide) ?_
                rw [hQ]
                exact W.zret (v := 0) hx hb hr (jb_nz (Or.inl rfl)) (fun t ht hW => ⟨⟨0, (pl, z_35, 0, dg, sv), rfl, ⟨(Or.inl rfl), by (try dsimp only); have hsm : (65 ≤ a1.toInt ∧ a1.toInt ≤ 90 ∧ jfSm a1.toInt = a1.toInt + 32) ∨ ((a1.toInt < 65 ∨ 90 < a1.toInt) ∧ jfSm a1.toInt = a1.toInt) := (by unfold jfSm; split <;> omega); refine ⟨?_, by omega, by omega, by omega, by omega, by omega, by omega, by omega⟩; exact jfIn_n (by omega) rfl (by omega) (by omega) (by omega)⟩, hh_36.rt (M1 := [(r0, 4, 5, .int pl), (r0, 4, 8, .int z_35), (r0, 4, 9, .int 0), (r0, 4, 10, .int dg), (r0, 4, 11, .int sv)]) [2, 0, 1, 5, 6] rfl ht⟩, by rw [ht]; try exact hh_36.1.1, fun q h9 hq => by rw [ht]; try exact hh_36.1.2.1 q h9 hq⟩) hh_36.1.2.2 dX2_isInName_141
              · skip
                have c_39' : a1.toInt ≤ 122 := jb_gt_n (rfl) ((by decide)) c_39
                refine lv_iconst (v := 1) hx hb dX2_isInName_136 (by decide) ?_
                refine lv_goto (tgt := 141) hx hb dX2_isInName_137 (by decide) ?_
                rw [hQ]
                exact W.zret (v := 1) hx hb hr (jb_nz (Or.inr rfl)) (fun t ht hW => ⟨⟨1, (pl, z_35, 0, dg, sv), rfl, ⟨(Or.inr rfl), by (try dsimp only); have hsm : (65 ≤ a1.toInt ∧ a1.toInt ≤ 90 ∧ jfSm a1.toInt = a1.toInt + 32) ∨ ((a1.toInt < 65 ∨ 90 < a1.toInt) ∧ jfSm a1.toInt = a1.toInt) := (by unfold jfSm; split <;> omega); refine ⟨?_, by omega, by omega, by omega, by omega, by omega, by omega, by omega⟩; exact jfIn_n (by omega) rfl (by omega) (by omega) (by omega)⟩, hh_36.rt (M1 := [(r0, 4, 5, .int pl), (r0, 4, 8, .int z_35), (r0, 4, 9, .int 0), (r0, 4, 10, .int dg), (r0, 4, 11, .int sv)]) [2, 0, 1, 5, 6] rfl ht⟩, by rw [ht]; try exact hh_36.1.1, fun q h9 hq => by rw [ht]; try exact hh_36.1.2.1 q h9 hq⟩) hh_36.1.2.2 dX2_isInName_141
        · skip
          have c_33' : il.toInt ≠ 0 := jb_eq_n (rfl) ((by decide)) c_33
          refine lv_aload_n hx hb dX2_isInName_75 rfl (lv_at hl 1 rfl) ?_
          refine j7_read hx hb hown hK (C := RX2) (T := TX2) (N := 12) rfl hly_4_8 hlk_54 (hh.at 3 rfl) dX2_isInName_76 ?_
          refine va_ldcS hx hb hown rstr60 dX2_isInName_79 ?_
          refine vp_callSi (W.runV (As := []) (rest := [.int sg, .ref r0]) ⟨hx, hb, hml, hown, hts⟩ (wJ0_length_8abf5 l dC dI ca base s.heap str60 14) (cwV 0 hts (jgV (jWr_18 _ (List.mem_of_getElem? (i := 11) rfl)) (jWr_5 _ (List.mem_of_getElem? (i := 13) rfl)) (jWr_5 _ (List.mem_of_getElem? (i := 14) rfl)) (jWr_5 _ (List.mem_of_getElem? (i := 15) rfl)) (jWr_5 _ (List.mem_of_getElem? (i := 16) rfl))) rfl rfl rfl (by decide +kernel) ⟨by rw [← hR]; exact Nat.le_of_ble_eq_true rfl, by rw [← hR]; exact Nat.le_of_ble_eq_true rfl⟩) ⟨fun a U g mk q => by obtain ⟨q0, q1, q2, qK, q9⟩ := q; exact ⟨q0, q1, (q2.moved (Vm.Alike.refl U.vm)), jG.calling g mk a qK, q9⟩, jStr_recv hstr60 hh.1, fun U hU hW => ⟨rfl, hU, (hstr60.moved hW.alike).kept hh.1.2.1, hG.step hW hU hh.1, by omega⟩⟩ rfl rfl hl.1 rfl (lv_room (Nat.le_of_ble_eq_true rfl)) dX2_isInName_81 ⟨Nat.zero_le _, Nat.zero_le _⟩) (fun r_40 hr_40 => ?_)
          refine lv_icmp_ge (tgt := 104) hx hb dX2_isInName_84 (by decide) (fun c_41 => ?_) (fun c_41 => ?_)
          · skip
            have c_41' : sg.toInt ≥ r_40.toInt := jb_ge (rfl) (rfl) c_41
            refine lv_iconst (v := 0) hx hb dX2_isInName_104 (by decide) ?_
            refine j7_put hx hb hown hK hh hB hAp hB4 (C := RX2) (T := TX2) (N := 12) rfl (by decide) hg_r0 (i := 9) (by decide) hly_4_9 rfl hlk_57 rfl (ty := .boolean) (v := .int 0) (by decide +kernel) (jb_nz (Or.inl rfl)) (jb_fz (Or.inl rfl)) (⟨_, rfl, (Or.inl rfl)⟩) rfl (L1 := [(r0, 4, 5, .int pl), (r0, 4, 6, .int to), (r0, 4, 2, .int ke), (r0, 4, 8, .int sg), (r0, 4, 10, .int dg), (r0, 4, 11, .int sv), (r0, 4, 7, .int fi)]) [0, 1, 2, 3, 5, 6, 7] rfl rfl rfl dX2_isInName_105 (fun H_42 locs_42 hh_42 => ?_)
            clear hh
            refine lv_aload_n hx hb dX2_isInName_108 rfl (lv_at hl 1 rfl) ?_
            refine lv_dup hx hb dX2_isInName_109 rfl ?_
            refine j7_read hx hb hown hK (C := RX2) (T := TX2) (N := 12) rfl hly_4_8 hlk_54 (hh_42.at 4 rfl) dX2_isInName_110 ?_
            refine lv_iconst (v := 1) hx hb dX2_isInName_113 (by decide) ?_
            refine lv_iadd hx hb dX2_isInName_114 ?_
            refine lv_topi (fun z_43 ez_43 => ?_)
            have hz_43 : z_43.toInt = sg.toInt + 1 := by rw [ez_43]; exact jb_iadd2 (rfl) ((by decide)) (by omega)
            refine j7_put hx hb hown hK hh_42 hB hAp hB4 (C := RX2) (T := TX2) (N := 12) rfl (by decide) hg_r0 (i := 8) (by decide) hly_4_8 rfl hlk_54 rfl (ty := .int) (v := .int z_43) (by decide +kernel) rfl rfl (⟨_, rfl⟩) rfl (L1 := [(r0, 4, 9, .int 0), (r0, 4, 5, .int pl), (r0, 4, 6, .int to), (r0, 4, 2, .int ke), (r0, 4, 10, .int dg), (r0, 4, 11, .int sv), (r0, 4, 7, .int fi)]) [0, 1, 2, 3, 5, 6, 7] rfl rfl rfl dX2_isInName_115 (fun H_44 locs_44 hh_44 => ?_)
            clear hh_42
            refine lv_iload_n hx hb dX2_isInName_118 rfl (lv_at hl 0 rfl) ?_
            refine lv_bipush (v := 45) hx hb dX2_isInName_119 (by decide) ?_
            refine lv_icmp_eq (tgt := 136) hx hb dX2_isInName_121 (by decide) (fun c_45 => ?_) (fun c_45 => ?_)
            · skip
              have c_45' : a1.toInt = 45 := jb_eq (rfl) ((by decide)) c_45
              refine lv_iconst (v := 1) hx hb dX2_isInName_136 (by decide) ?_
              refine lv_goto (tgt := 141) hx hb dX2_isInName_137 (by decide) ?_
              rw [hQ]
              exact W.zret (v := 1) hx hb hr (jb_nz (Or.inr rfl)) (fun t ht hW => ⟨⟨1, (pl, z_43, 0, dg, sv), rfl, ⟨(Or.inr rfl), by (try dsimp only); have hsm : (65 ≤ a1.toInt ∧ a1.toInt ≤ 90 ∧ jfSm a1.toInt = a1.toInt + 32) ∨ ((a1.toInt < 65 ∨ 90 < a1.toInt) ∧ jfSm a1.toInt = a1.toInt) := (by unfold jfSm; split <;> omega); refine ⟨?_, by omega, by omega, by omega, by omega, by omega, by omega, by omega⟩; exact jfIn_n (by omega) rfl (by omega) (by omega) (by omega)⟩, hh_44.rt (M1 := [(r0, 4, 5, .int pl), (r0, 4, 8, .int z_43), (r0, 4, 9, .int 0), (r0, 4, 10, .int dg), (r0, 4, 11, .int sv)]) [2, 0, 1, 5, 6] rfl ht⟩, by rw [ht]; try exact hh_44.1.1, fun q h9 hq => by rw [ht]; try exact hh_44.1.2.1 q h9 hq⟩) hh_44.1.2.2 dX2_isInName_141
            · skip
              have c_45' : a1.toInt ≠ 45 := jb_eq_n (rfl) ((by decide)) c_45
              refine lv_iload_n hx hb dX2_isInName_124 rfl (lv_at hl 0 rfl) ?_
              refine lv_bipush (v := 97) hx hb dX2_isInName_125 (by decide) ?_
              refine lv_icmp_lt (tgt := 140) hx hb dX2_isInName_127 (by decide) (fun c_46 => ?_) (fun c_46 => ?_)
              · skip
                have c_46' : a1.toInt < 97 := jb_lt (rfl) ((by decide)) c_46
                refine lv_iconst (v := 0) hx hb dX2_isInName_140 (by decide) ?_
                rw [hQ]
                exact W.zret (v := 0) hx hb hr (jb_nz (Or.inl rfl)) (fun t ht hW => ⟨⟨0, (pl, z_43, 0, dg, sv), rfl, ⟨(Or.inl rfl), by (try dsimp only); have hsm : (65 ≤ a1.toInt ∧ a1.toInt ≤ 90 ∧ jfSm a1.toInt = a1.toInt + 32) ∨ ((a1.toInt < 65 ∨ 90 < a1.toInt) ∧ jfSm a1.toInt = a1.toInt) := (by unfold jfSm; split <;> omega); refine ⟨?_, by omega, by omega, by omega, by omega, by omega, by omega, by omega⟩; exact jfIn_n (by omega) rfl (by omega) (by omega) (by omega)⟩, hh_44.rt (M1 := [(r0, 4, 5, .int pl), (r0, 4, 8, .int z_43), (r0, 4, 9, .int 0), (r0, 4, 10, .int dg), (r0, 4, 11, .int sv)]) [2, 0, 1, 5, 6] rfl ht⟩, by rw [ht]; try exact hh_44.1.1, fun q h9 hq => by rw [ht]; try exact hh_44.1.2.1 q h9 hq⟩) hh_44.1.2.2 dX2_isInName_141
              · skip
                have c_46' : a1.toInt ≥ 97 := jb_lt_n (rfl) ((by decide)) c_46
                refine lv_iload_n hx hb dX2_isInName_130 rfl (lv_at hl 0 rfl) ?_
                refine lv_bipush (v := 122) hx hb dX2_isInName_131 (by decide) ?_
                refine lv_icmp_gt (tgt := 140) hx hb dX2_isInName_133 (by decide) (fun c_47 => ?_) (fun c_47 => ?_)
                · skip
                  have c_47' : a1.toInt > 122 := jb_gt (rfl) ((by decide)) c_47
                  refine lv_iconst (v := 0) hx hb dX2_isInName_140 (by decide) ?_
                  rw [hQ]
                  exact W.zret (v := 0) hx hb hr (jb_nz (Or.inl rfl)) (fun t ht hW => ⟨⟨0, (pl, z_43, 0, dg, sv), rfl, ⟨(Or.inl rfl), by (try dsimp only); have hsm : (65 ≤ a1.toInt ∧ a1.toInt ≤ 90 ∧ jfSm a1.toInt = a1.toInt + 32) ∨ ((a1.toInt < 65 ∨ 90 < a1.toInt) ∧ jfSm a1.toInt = a1.toInt) := (by unfold jfSm; split <;> omega); refine ⟨?_, by omega, by omega, by omega, by omega, by omega, by omega, by omega⟩; exact jfIn_n (by omega) rfl (by omega) (by omega) (by omega)⟩, hh_44.rt (M1 := [(r0, 4, 5, .int pl), (r0, 4, 8, .int z_43), (r0, 4, 9, .int 0), (r0, 4, 10, .int dg), (r0, 4, 11, .int sv)]) [2, 0, 1, 5, 6] rfl ht⟩, by rw [ht]; try exact hh_44.1.1, fun q h9 hq => by rw [ht]; try exact hh_44.1.2.1 q h9 hq⟩) hh_44.1.2.2 dX2_isInName_141
                · skip
                  have c_47' : a1.toInt ≤ 122 := jb_gt_n (rfl) ((by decide)) c_47
                  refine lv_iconst (v := 1) hx hb dX2_isInName_136 (by decide) ?_
                  refine lv_goto (tgt := 141) hx hb dX2_isInName_137 (by decide) ?_
                  rw [hQ]
                  exact W.zret (v := 1) hx hb hr (jb_nz (Or.inr rfl)) (fun t ht hW => ⟨⟨1, (pl, z_43, 0, dg, sv), rfl, ⟨(Or.inr rfl), by (try dsimp only); have hsm : (65 ≤ a1.toInt ∧ a1.toInt ≤ 90 ∧ jfSm a1.toInt = a1.toInt + 32) ∨ ((a1.toInt < 65 ∨ 90 < a1.toInt) ∧ jfSm a1.toInt = a1.toInt) := (by unfold jfSm; split <;> omega); refine ⟨?_, by omega, by omega, by omega, by omega, by omega, by omega, by omega⟩; exact jfIn_n (by omega) rfl (by omega) (by omega) (by omega)⟩, hh_44.rt (M1 := [(r0, 4, 5, .int pl), (r0, 4, 8, .int z_43), (r0, 4, 9, .int 0), (r0, 4, 10, .int dg), (r0, 4, 11, .int sv)]) [2, 0, 1, 5, 6] rfl ht⟩, by rw [ht]; try exact hh_44.1.1, fun q h9 hq => by rw [ht]; try exact hh_44.1.2.1 q h9 hq⟩) hh_44.1.2.2 dX2_isInName_141
          · skip
            have c_41' : sg.toInt < r_40.toInt := jb_ge_n (rfl) (rfl) c_41
            refine va_ldcS hx hb hown rstr60 dX2_isInName_87 ?_
            refine lv_aload_n hx hb dX2_isInName_89 rfl (lv_at hl 1 rfl) ?_
            refine j7_read hx hb hown hK (C := RX2) (T := TX2) (N := 12) rfl hly_4_8 hlk_54 (hh.at 3 rfl) dX2_isInName_90 ?_
            refine vp_callSi (W.runV (As := [.int sg]) (rest := [.ref r0]) ⟨hx, hb, hml, hown, hts⟩ (eJ0_charAt_5068e l dC dI ca base s.heap str60 14 (jChT "content-length") sg) (cwV 1 hts (jgV (jWr_18 _ (List.mem_of_getElem? (i := 12) rfl)) (jWr_6 _ (List.mem_of_getElem? (i := 1) rfl)) (jWr_6 _ (List.mem_of_getElem? (i := 2) rfl)) (jWr_5 _ (List.mem_of_getElem? (i := 15) rfl)) (jWr_6 _ (List.mem_of_getElem? (i := 3) rfl))) rfl rfl rfl (by decide +kernel) ⟨by rw [← hR]; exact Nat.le_of_ble_eq_true rfl, by rw [← hR]; exact Nat.le_of_ble_eq_true rfl⟩) ⟨fun a U g mk q => by obtain ⟨q0, q1, q2, qK, q9⟩ := q; exact ⟨q0, q1, (q2.moved (Vm.Alike.refl U.vm)), jG.calling g mk a qK, q9⟩, jStr_recv hstr60 hh.1, fun U hU hW => ⟨rfl, hU, (hTstr60.moved hW.alike).kept hh.1.2.1, hG.step hW hU hh.1, ⟨by omega, by omega, by omega⟩⟩⟩ rfl rfl hl.1 rfl (lv_room (Nat.le_of_ble_eq_true rfl)) dX2_isInName_93 ⟨Nat.zero_le _, Nat.zero_le _⟩) (fun r_48 hr_48 => ?_)
            refine lv_iload_n hx hb dX2_isInName_96 rfl (lv_at hl 0 rfl) ?_
            have hch : r_48.toInt = jfC sg.toInt := by unfold jfC; rw [hr_48]
            refine lv_icmp_ne (tgt := 104) hx hb dX2_isInName_97 (by decide) (fun c_49 => ?_) (fun c_49 => ?_)
            · skip
              have c_49' : r_48.toInt ≠ a1.toInt := jb_ne (rfl) (rfl) c_49
              refine lv_iconst (v := 0) hx hb dX2_isInName_104 (by decide) ?_
              refine j7_put hx hb hown hK hh hB hAp hB4 (C := RX2) (T := TX2) (N := 12) rfl (by decide) hg_r0 (i := 9) (by decide) hly_4_9 rfl hlk_57 rfl (ty := .boolean) (v := .int 0) (by decide +kernel) (jb_nz (Or.inl rfl)) (jb_fz (Or.inl rfl)) (⟨_, rfl, (Or.inl rfl)⟩) rfl (L1 := [(r0, 4, 5, .int pl), (r0, 4, 6, .int to), (r0, 4, 2, .int ke), (r0, 4, 8, .int sg), (r0, 4, 10, .int dg), (r0, 4, 11, .int sv), (r0, 4, 7, .int fi)]) [0, 1, 2, 3, 5, 6, 7] rfl rfl rfl dX2_isInName_105 (fun H_50 locs_50 hh_50 => ?_)
              clear hh
              refine lv_aload_n hx hb dX2_isInName_108 rfl (lv_at hl 1 rfl) ?_
              refine lv_dup hx hb dX2_isInName_109 rfl ?_
              refine j7_read hx hb hown hK (C := RX2) (T := TX2) (N := 12) rfl hly_4_8 hlk_54 (hh_50.at 4 rfl) dX2_isInName_110 ?_
              refine lv_iconst (v := 1) hx hb dX2_isInName_113 (by decide) ?_
              refine lv_iadd hx hb dX2_isInName_114 ?_
              refine lv_topi (fun z_51 ez_51 => ?_)
              have hz_51 : z_51.toInt = sg.toInt + 1 := by rw [ez_51]; exact jb_iadd2 (rfl) ((by decide)) (by omega)
              refine j7_put hx hb hown hK hh_50 hB hAp hB4 (C := RX2) (T := TX2) (N := 12) rfl (by decide) hg_r0 (i := 8) (by decide) hly_4_8 rfl hlk_54 rfl (ty := .int) (v := .int z_51) (by decide +kernel) rfl rfl (⟨_, rfl⟩) rfl (L1 := [(r0, 4, 9, .int 0), (r0, 4, 5, .int pl), (r0, 4, 6, .int to), (r0, 4, 2, .int ke), (r0, 4, 10, .int dg), (r0, 4, 11, .int sv), (r0, 4, 7, .int fi)]) [0, 1, 2, 3, 5, 6, 7] rfl rfl rfl dX2_isInName_115 (fun H_52 locs_52 hh_52 => ?_)
              clear hh_50
              refine lv_iload_n hx hb dX2_isInName_118 rfl (lv_at hl 0 rfl) ?_
              refine lv_bipush (v := 45) hx hb dX2_isInName_119 (by decide) ?_
              refine lv_icmp_eq (tgt := 136) hx hb dX2_isInName_121 (by decide) (fun c_53 => ?_) (fun c_53 => ?_)
              · skip
                have c_53' : a1.toInt = 45 := jb_eq (rfl) ((by decide)) c_53
                refine lv_iconst (v := 1) hx hb dX2_isInName_136 (by decide) ?_
                refine lv_goto (tgt := 141) hx hb dX2_isInName_137 (by decide) ?_
                rw [hQ]
                exact W.zret (v := 1) hx hb hr (jb_nz (Or.inr rfl)) (fun t ht hW => ⟨⟨1, (pl, z_51, 0, dg, sv), rfl, ⟨(Or.inr rfl), by (try dsimp only); have hsm : (65 ≤ a1.toInt ∧ a1.toInt ≤ 90 ∧ jfSm a1.toInt = a1.toInt + 32) ∨ ((a1.toInt < 65 ∨ 90 < a1.toInt) ∧ jfSm a1.toInt = a1.toInt) := (by unfold jfSm; split <;> omega); refine ⟨?_, by omega, by omega, by omega, by omega, by omega, by omega, by omega⟩; exact jfIn_n (by omega) rfl (by omega) (by omega) (by omega)⟩, hh_52.rt (M1 := [(r0, 4, 5, .int pl), (r0, 4, 8, .int z_51), (r0, 4, 9, .int 0), (r0, 4, 10, .int dg), (r0, 4, 11, .int sv)]) [2, 0, 1, 5, 6] rfl ht⟩, by rw [ht]; try exact hh_52.1.1, fun q h9 hq => by rw [ht]; try exact hh_52.1.2.1 q h9 hq⟩) hh_52.1.2.2 dX2_isInName_141
              · skip
                have c_53' : a1.toInt ≠ 45 := jb_eq_n (rfl) ((by decide)) c_53
                refine lv_iload_n hx hb dX2_isInName_124 rfl (lv_at hl 0 rfl) ?_
                refine lv_bipush (v := 97) hx hb dX2_isInName_125 (by decide) ?_
                refine lv_icmp_lt (tgt := 140) hx hb dX2_isInName_127 (by decide) (fun c_54 => ?_) (fun c_54 => ?_)
                · skip
                  have c_54' : a1.toInt < 97 := jb_lt (rfl) ((by decide)) c_54
                  refine lv_iconst (v := 0) hx hb dX2_isInName_140 (by decide) ?_
                  rw [hQ]
                  exact W.zret (v := 0) hx hb hr (jb_nz (Or.inl rfl)) (fun t ht hW => ⟨⟨0, (pl, z_51, 0, dg, sv), rfl, ⟨(Or.inl rfl), by (try dsimp only); have hsm : (65 ≤ a1.toInt ∧ a1.toInt ≤ 90 ∧ jfSm a1.toInt = a1.toInt + 32) ∨ ((a1.toInt < 65 ∨ 90 < a1.toInt) ∧ jfSm a1.toInt = a1.toInt) := (by unfold jfSm; split <;> omega); refine ⟨?_, by omega, by omega, by omega, by omega, by omega, by omega, by omega⟩; exact jfIn_n (by omega) rfl (by omega) (by omega) (by omega)⟩, hh_52.rt (M1 := [(r0, 4, 5, .int pl), (r0, 4, 8, .int z_51), (r0, 4, 9, .int 0), (r0, 4, 10, .int dg), (r0, 4, 11, .int sv)]) [2, 0, 1, 5, 6] rfl ht⟩, by rw [ht]; try exact hh_52.1.1, fun q h9 hq => by rw [ht]; try exact hh_52.1.2.1 q h9 hq⟩) hh_52.1.2.2 dX2_isInName_141
                · skip
                  have c_54' : a1.toInt ≥ 97 := jb_lt_n (rfl) ((by decide)) c_54
                  refine lv_iload_n hx hb dX2_isInName_130 rfl (lv_at hl 0 rfl) ?_
                  refine lv_bipush (v := 122) hx hb dX2_isInName_131 (by decide) ?_
                  refine lv_icmp_gt (tgt := 140) hx hb dX2_isInName_133 (by decide) (fun c_55 => ?_) (fun c_55 => ?_)
                  · skip
                    have c_55' : a1.toInt > 122 := jb_gt (rfl) ((by decide)) c_55
                    refine lv_iconst (v := 0) hx hb dX2_isInName_140 (by decide) ?_
                    rw [hQ]
                    exact W.zret (v := 0) hx hb hr (jb_nz (Or.inl rfl)) (fun t ht hW => ⟨⟨0, (pl, z_51, 0, dg, sv), rfl, ⟨(Or.inl rfl), by (try dsimp only); have hsm : (65 ≤ a1.toInt ∧ a1.toInt ≤ 90 ∧ jfSm a1.toInt = a1.toInt + 32) ∨ ((a1.toInt < 65 ∨ 90 < a1.toInt) ∧ jfSm a1.toInt = a1.toInt) := (by unfold jfSm; split <;> omega); refine ⟨?_, by omega, by omega, by omega, by omega, by omega, by omega, by omega⟩; exact jfIn_n (by omega) rfl (by omega) (by omega) (by omega)⟩, hh_52.rt (M1 := [(r0, 4, 5, .int pl), (r0, 4, 8, .int z_51), (r0, 4, 9, .int 0), (r0, 4, 10, .int dg), (r0, 4, 11, .int sv)]) [2, 0, 1, 5, 6] rfl ht⟩, by rw [ht]; try exact hh_52.1.1, fun q h9 hq => by rw [ht]; try exact hh_52.1.2.1 q h9 hq⟩) hh_52.1.2.2 dX2_isInName_141
                  · skip
                    have c_55' : a1.toInt ≤ 122 := jb_gt_n (rfl) ((by decide)) c_55
                    refine lv_iconst (v := 1) hx hb dX2_isInName_136 (by decide) ?_
                    refine lv_goto (tgt := 141) hx hb dX2_isInName_137 (by decide) ?_
                    rw [hQ]
                    exact W.zret (v := 1) hx hb hr (jb_nz (Or.inr rfl)) (fun t ht hW => ⟨⟨1, (pl, z_51, 0, dg, sv), rfl, ⟨(Or.inr rfl), by (try dsimp only); have hsm : (65 ≤ a1.toInt ∧ a1.toInt ≤ 90 ∧ jfSm a1.toInt = a1.toInt + 32) ∨ ((a1.toInt < 65 ∨ 90 < a1.toInt) ∧ jfSm a1.toInt = a1.toInt) := (by unfold jfSm; split <;> omega); refine ⟨?_, by omega, by omega, by omega, by omega, by omega, by omega, by omega⟩; exact jfIn_n (by omega) rfl (by omega) (by omega) (by omega)⟩, hh_52.rt (M1 := [(r0, 4, 5, .int pl), (r0, 4, 8, .int z_51), (r0, 4, 9, .int 0), (r0, 4, 10, .int dg), (r0, 4, 11, .int sv)]) [2, 0, 1, 5, 6] rfl ht⟩, by rw [ht]; try exact hh_52.1.1, fun q h9 hq => by rw [ht]; try exact hh_52.1.2.1 q h9 hq⟩) hh_52.1.2.2 dX2_isInName_141
            · skip
              have c_49' : r_48.toInt = a1.toInt := jb_ne_n (rfl) (rfl) c_49
              refine lv_iconst (v := 1) hx hb dX2_isInName_100 (by decide) ?_
              refine lv_goto (tgt := 105) hx hb dX2_isInName_101 (by decide) ?_
              refine j7_put hx hb hown hK hh hB hAp hB4 (C := RX2) (T := TX2) (N := 12) rfl (by decide) hg_r0 (i := 9) (by decide) hly_4_9 rfl hlk_57 rfl (ty := .boolean) (v := .int 1) (by decide +kernel) (jb_nz (Or.inr rfl)) (jb_fz (Or.inr rfl)) (⟨_, rfl, (Or.inr rfl)⟩) rfl (L1 := [(r0, 4, 5, .int pl), (r0, 4, 6, .int to), (r0, 4, 2, .int ke), (r0, 4, 8, .int sg), (r0, 4, 10, .int dg), (r0, 4, 11, .int sv), (r0, 4, 7, .int fi)]) [0, 1, 2, 3, 5, 6, 7] rfl rfl rfl dX2_isInName_105 (fun H_56 locs_56 hh_56 => ?_)
              clear hh
              refine lv_aload_n hx hb dX2_isInName_108 rfl (lv_at hl 1 rfl) ?_
              refine lv_dup hx hb dX2_isInName_109 rfl ?_
              refine j7_read hx hb hown hK (C := RX2) (T := TX2) (N := 12) rfl hly_4_8 hlk_54 (hh_56.at 4 rfl) dX2_isInName_110 ?_
              refine lv_iconst (v := 1) hx hb dX2_isInName_113 (by decide) ?_
              refine lv_iadd hx hb dX2_isInName_114 ?_
              refine lv_topi (fun z_57 ez_57 => ?_)
              have hz_57 : z_57.toInt = sg.toInt + 1 := by rw [ez_57]; exact jb_iadd2 (rfl) ((by decide)) (by omega)
              refine j7_put hx hb hown hK hh_56 hB hAp hB4 (C := RX2) (T := TX2) (N := 12) rfl (by decide) hg_r0 (i := 8) (by decide) hly_4_8 rfl hlk_54 rfl (ty := .int) (v := .int z_57) (by decide +kernel) rfl rfl (⟨_, rfl⟩) rfl (L1 := [(r0, 4, 9, .int 1), (r0, 4, 5, .int pl), (r0, 4, 6, .int to), (r0, 4, 2, .int ke), (r0, 4, 10, .int dg), (r0, 4, 11, .int sv), (r0, 4, 7, .int fi)]) [0, 1, 2, 3, 5, 6, 7] rfl rfl rfl dX2_isInName_115 (fun H_58 locs_58 hh_58 => ?_)
              clear hh_56
              refine lv_iload_n hx hb dX2_isInName_118 rfl (lv_at hl 0 rfl) ?_
              refine lv_bipush (v := 45) hx hb dX2_isInName_119 (by decide) ?_
              refine lv_icmp_eq (tgt := 136) hx hb dX2_isInName_121 (by decide) (fun c_59 => ?_) (fun c_59 => ?_)
              · skip
                have c_59' : a1.toInt = 45 := jb_eq (rfl) ((by decide)) c_59
                refine lv_iconst (v := 1) hx hb dX2_isInName_136 (by decide) ?_
                refine lv_goto (tgt := 141) hx hb dX2_isInName_137 (by decide) ?_
                rw [hQ]
                exact W.zret (v := 1) hx hb hr (jb_nz (Or.inr rfl)) (fun t ht hW => ⟨⟨1, (pl, z_57, 1, dg, sv), rfl, ⟨(Or.inr rfl), by (try dsimp only); have hsm : (65 ≤ a1.toInt ∧ a1.toInt ≤ 90 ∧ jfSm a1.toInt = a1.toInt + 32) ∨ ((a1.toInt < 65 ∨ 90 < a1.toInt) ∧ jfSm a1.toInt = a1.toInt) := (by unfold jfSm; split <;> omega); refine ⟨?_, by omega, by omega, by omega, by omega, by omega, by omega, by omega⟩; exact jfIn_n (by omega) rfl (by omega) (by omega) (by omega)⟩, hh_58.rt (M1 := [(r0, 4, 5, .int pl), (r0, 4, 8, .int z_57), (r0, 4, 9, .int 1), (r0, 4, 10, .int dg), (r0, 4, 11, .int sv)]) [2, 0, 1, 5, 6] rfl ht⟩, by rw [ht]; try exact hh_58.1.1, fun q h9 hq => by rw [ht]; try exact hh_58.1.2.1 q h9 hq⟩) hh_58.1.2.2 dX2_isInName_141
              · skip
                have c_59' : a1.toInt ≠ 45 := jb_eq_n (rfl) ((by decide)) c_59
                refine lv_iload_n hx hb dX2_isInName_124 rfl (lv_at hl 0 rfl) ?_
                refine lv_bipush (v := 97) hx hb dX2_isInName_125 (by decide) ?_
                refine lv_icmp_lt (tgt := 140) hx hb dX2_isInName_127 (by decide) (fun c_60 => ?_) (fun c_60 => ?_)
                · skip
                  have c_60' : a1.toInt < 97 := jb_lt (rfl) ((by decide)) c_60
                  refine lv_iconst (v := 0) hx hb dX2_isInName_140 (by decide) ?_
                  rw [hQ]
                  exact W.zret (v := 0) hx hb hr (jb_nz (Or.inl rfl)) (fun t ht hW => ⟨⟨0, (pl, z_57, 1, dg, sv), rfl, ⟨(Or.inl rfl), by (try dsimp only); have hsm : (65 ≤ a1.toInt ∧ a1.toInt ≤ 90 ∧ jfSm a1.toInt = a1.toInt + 32) ∨ ((a1.toInt < 65 ∨ 90 < a1.toInt) ∧ jfSm a1.toInt = a1.toInt) := (by unfold jfSm; split <;> omega); refine ⟨?_, by omega, by omega, by omega, by omega, by omega, by omega, by omega⟩; exact jfIn_n (by omega) rfl (by omega) (by omega) (by omega)⟩, hh_58.rt (M1 := [(r0, 4, 5, .int pl), (r0, 4, 8, .int z_57), (r0, 4, 9, .int 1), (r0, 4, 10, .int dg), (r0, 4, 11, .int sv)]) [2, 0, 1, 5, 6] rfl ht⟩, by rw [ht]; try exact hh_58.1.1, fun q h9 hq => by rw [ht]; try exact hh_58.1.2.1 q h9 hq⟩) hh_58.1.2.2 dX2_isInName_141
                · skip
                  have c_60' : a1.toInt ≥ 97 := jb_lt_n (rfl) ((by decide)) c_60
                  refine lv_iload_n hx hb dX2_isInName_130 rfl (lv_at hl 0 rfl) ?_
                  refine lv_bipush (v := 122) hx hb dX2_isInName_131 (by decide) ?_
                  refine lv_icmp_gt (tgt := 140) hx hb dX2_isInName_133 (by decide) (fun c_61 => ?_) (fun c_61 => ?_)
                  · skip
                    have c_61' : a1.toInt > 122 := jb_gt (rfl) ((by decide)) c_61
                    refine lv_iconst (v := 0) hx hb dX2_isInName_140 (by decide) ?_
                    rw [hQ]
                    exact W.zret (v := 0) hx hb hr (jb_nz (Or.inl rfl)) (fun t ht hW => ⟨⟨0, (pl, z_57, 1, dg, sv), rfl, ⟨(Or.inl rfl), by (try dsimp only); have hsm : (65 ≤ a1.toInt ∧ a1.toInt ≤ 90 ∧ jfSm a1.toInt = a1.toInt + 32) ∨ ((a1.toInt < 65 ∨ 90 < a1.toInt) ∧ jfSm a1.toInt = a1.toInt) := (by unfold jfSm; split <;> omega); refine ⟨?_, by omega, by omega, by omega, by omega, by omega, by omega, by omega⟩; exact jfIn_n (by omega) rfl (by omega) (by omega) (by omega)⟩, hh_58.rt (M1 := [(r0, 4, 5, .int pl), (r0, 4, 8, .int z_57), (r0, 4, 9, .int 1), (r0, 4, 10, .int dg), (r0, 4, 11, .int sv)]) [2, 0, 1, 5, 6] rfl ht⟩, by rw [ht]; try exact hh_58.1.1, fun q h9 hq => by rw [ht]; try exact hh_58.1.2.1 q h9 hq⟩) hh_58.1.2.2 dX2_isInName_141
                  · skip
                    have c_61' : a1.toInt ≤ 122 := jb_gt_n (rfl) ((by decide)) c_61
                    refine lv_iconst (v := 1) hx hb dX2_isInName_136 (by decide) ?_
                    refine lv_goto (tgt := 141) hx hb dX2_isInName_137 (by decide) ?_
                    rw [hQ]
                    exact W.zret (v := 1) hx hb hr (jb_nz (Or.inr rfl)) (fun t ht hW => ⟨⟨1, (pl, z_57, 1, dg, sv), rfl, ⟨(Or.inr rfl), by (try dsimp only); have hsm : (65 ≤ a1.toInt ∧ a1.toInt ≤ 90 ∧ jfSm a1.toInt = a1.toInt + 32) ∨ ((a1.toInt < 65 ∨ 90 < a1.toInt) ∧ jfSm a1.toInt = a1.toInt) := (by unfold jfSm; split <;> omega); refine ⟨?_, by omega, by omega, by omega, by omega, by omega, by omega, by omega⟩; exact jfIn_n (by omega) rfl (by omega) (by omega) (by omega)⟩, hh_58.rt (M1 := [(r0, 4, 5, .int pl), (r0, 4, 8, .int z_57), (r0, 4, 9, .int 1), (r0, 4, 10, .int dg), (r0, 4, 11, .int sv)]) [2, 0, 1, 5, 6] rfl ht⟩, by rw [ht]; try exact hh_58.1.1, fun q h9 hq => by rw [ht]; try exact hh_58.1.2.1 q h9 hq⟩) hh_58.1.2.2 dX2_isInName_141
      · skip
        have c_32' : a1.toInt ≤ 90 := jb_gt_n (rfl) ((by decide)) c_32
        refine lv_iload_n hx hb dX2_isInName_58 rfl (lv_at hl 1 rfl) ?_
        refine lv_bipush (v := 32) hx hb dX2_isInName_59 (by decide) ?_
        refine lv_iadd hx hb dX2_isInName_61 ?_
        refine lv_topi (fun z_62 ez_62 => ?_)
        have hz_62 : z_62.toInt = a1.toInt + 32 := by rw [ez_62]; exact jb_iadd2 (rfl) ((by decide)) (by omega)
        refine lv_goto (tgt := 66) hx hb dX2_isInName_62 (by decide) ?_
        refine lv_istore_n (lv' := [(2, .int z_62), (0, .ref r0), (1, .int a1)]) hx hb dX2_isInName_66 rfl hl (by decide) rfl (fun ls hl => ?_)
        refine lv_aload_n hx hb dX2_isInName_67 rfl (lv_at hl 1 rfl) ?_
        refine lv_aload_n hx hb dX2_isInName_68 rfl (lv_at hl 1 rfl) ?_
        refine j7_read hx hb hown hK (C := RX2) (T := TX2) (N := 12) rfl hly_4_9 hlk_57 (hh.at 4 rfl) dX2_isInName_69 ?_
        refine lv_if_eq (tgt := 104) hx hb dX2_isInName_72 (by decide) (fun c_63 => ?_) (fun c_63 => ?_)
        · skip
          have c_63' : il.toInt = 0 := jb_eq (rfl) ((by decide)) c_63
          refine lv_iconst (v := 0) hx hb dX2_isInName_104 (by decide) ?_
          refine j7_put hx hb hown hK hh hB hAp hB4 (C := RX2) (T := TX2) (N := 12) rfl (by decide) hg_r0 (i := 9) (by decide) hly_4_9 rfl hlk_57 rfl (ty := .boolean) (v := .int 0) (by decide +kernel) (jb_nz (Or.inl rfl)) (jb_fz (Or.inl rfl)) (⟨_, rfl, (Or.inl rfl)⟩) rfl (L1 := [(r0, 4, 5, .int pl), (r0, 4, 6, .int to), (r0, 4, 2, .int ke), (r0, 4, 8, .int sg), (r0, 4, 10, .int dg), (r0, 4, 11, .int sv), (r0, 4, 7, .int fi)]) [0, 1, 2, 3, 5, 6, 7] rfl rfl rfl dX2_isInName_105 (fun H_64 locs_64 hh_64 => ?_)
          clear hh
          refine lv_aload_n hx hb dX2_isInName_108 rfl (lv_at hl 1 rfl) ?_
          refine lv_dup hx hb dX2_isInName_109 rfl ?_
          refine j7_read hx hb hown hK (C := RX2) (T := TX2) (N := 12) rfl hly_4_8 hlk_54 (hh_64.at 4 rfl) dX2_isInName_110 ?_
          refine lv_iconst (v := 1) hx hb dX2_isInName_113 (by decide) ?_
          refine lv_iadd hx hb dX2_isInName_114 ?_
          refine lv_topi (fun z_65 ez_65 => ?_)
          have hz_65 : z_65.toInt = sg.toInt + 1 := by rw [ez_65]; exact jb_iadd2 (rfl) ((by decide)) (by omega)
          refine j7_put hx hb hown hK hh_64 hB hAp hB4 (C := RX2) (T := TX2) (N := 12) rfl (by decide) hg_r0 (i := 8) (by decide) hly_4_8 rfl hlk_54 rfl (ty := .int) (v := .int z_65) (by decide +kernel) rfl rfl (⟨_, rfl⟩) rfl (L1 := [(r0, 4, 9, .int 0), (r0, 4, 5, .int pl), (r0, 4, 6, .int to), (r0, 4, 2, .int ke), (r0, 4, 10, .int dg), (r0, 4, 11, .int sv), (r0, 4, 7, .int fi)]) [0, 1, 2, 3, 5, 6, 7] rfl rfl rfl dX2_isInName_115 (fun H_66 locs_66 hh_66 => ?_)
          clear hh_64
          refine lv_iload_n hx hb dX2_isInName_118 rfl (lv_at hl 0 rfl) ?_
          refine lv_bipush (v := 45) hx hb dX2_isInName_119 (by decide) ?_
          refine lv_icmp_eq (tgt := 136) hx hb dX2_isInName_121 (by decide) (fun c_67 => ?_) (fun c_67 => ?_)
          · skip
            have c_67' : z_62.toInt = 45 := jb_eq (rfl) ((by decide)) c_67
            refine lv_iconst (v := 1) hx hb dX2_isInName_136 (by decide) ?_
            refine lv_goto (tgt := 141) hx hb dX2_isInName_137 (by decide) ?_
            rw [hQ]
            exact W.zret (v := 1) hx hb hr (jb_nz (Or.inr rfl)) (fun t ht hW => ⟨⟨1, (pl, z_65, 0, dg, sv), rfl, ⟨(Or.inr rfl), by (try dsimp only); have hsm : (65 ≤ a1.toInt ∧ a1.toInt ≤ 90 ∧ jfSm a1.toInt = a1.toInt + 32) ∨ ((a1.toInt < 65 ∨ 90 < a1.toInt) ∧ jfSm a1.toInt = a1.toInt) := (by unfold jfSm; split <;> omega); refine ⟨?_, by omega, by omega, by omega, by omega, by omega, by omega, by omega⟩; exact jfIn_n (by omega) rfl (by omega) (by omega) (by omega)⟩, hh_66.rt (M1 := [(r0, 4, 5, .int pl), (r0, 4, 8, .int z_65), (r0, 4, 9, .int 0), (r0, 4, 10, .int dg), (r0, 4, 11, .int sv)]) [2, 0, 1, 5, 6] rfl ht⟩, by rw [ht]; try exact hh_66.1.1, fun q h9 hq => by rw [ht]; try exact hh_66.1.2.1 q h9 hq⟩) hh_66.1.2.2 dX2_isInName_141
          · skip
            have c_67' : z_62.toInt ≠ 45 := jb_eq_n (rfl) ((by decide)) c_67
            refine lv_iload_n hx hb dX2_isInName_124 rfl (lv_at hl 0 rfl) ?_
            refine lv_bipush (v := 97) hx hb dX2_isInName_125 (by decide) ?_
            refine lv_icmp_lt (tgt := 140) hx hb dX2_isInName_127 (by decide) (fun c_68 => ?_) (fun c_68 => ?_)
            · skip
              have c_68' : z_62.toInt < 97 := jb_lt (rfl) ((by decide)) c_68
              refine lv_iconst (v := 0) hx hb dX2_isInName_140 (by decide) ?_
              rw [hQ]
              exact W.zret (v := 0) hx hb hr (jb_nz (Or.inl rfl)) (fun t ht hW => ⟨⟨0, (pl, z_65, 0, dg, sv), rfl, ⟨(Or.inl rfl), by (try dsimp only); have hsm : (65 ≤ a1.toInt ∧ a1.toInt ≤ 90 ∧ jfSm a1.toInt = a1.toInt + 32) ∨ ((a1.toInt < 65 ∨ 90 < a1.toInt) ∧ jfSm a1.toInt = a1.toInt) := (by unfold jfSm; split <;> omega); refine ⟨?_, by omega, by omega, by omega, by omega, by omega, by omega, by omega⟩; exact jfIn_n (by omega) rfl (by omega) (by omega) (by omega)⟩, hh_66.rt (M1 := [(r0, 4, 5, .int pl), (r0, 4, 8, .int z_65), (r0, 4, 9, .int 0), (r0, 4, 10, .int dg), (r0, 4, 11, .int sv)]) [2, 0, 1, 5, 6] rfl ht⟩, by rw [ht]; try exact hh_66.1.1, fun q h9 hq => by rw [ht]; try exact hh_66.1.2.1 q h9 hq⟩) hh_66.1.2.2 dX2_isInName_141
            · skip
              have c_68' : z_62.toInt ≥ 97 := jb_lt_n (rfl) ((by decide)) c_68
              refine lv_iload_n hx hb dX2_isInName_130 rfl (lv_at hl 0 rfl) ?_
              refine lv_bipush (v := 122) hx hb dX2_isInName_131 (by decide) ?_
              refine lv_icmp_gt (tgt := 140) hx hb dX2_isInName_133 (by decide) (fun c_69 => ?_) (fun c_69 => ?_)
              · skip
                have c_69' : z_62.toInt > 122 := jb_gt (rfl) ((by decide)) c_69
                refine lv_iconst (v := 0) hx hb dX2_isInName_140 (by decide) ?_
                rw [hQ]
                exact W.zret (v := 0) hx hb hr (jb_nz (Or.inl rfl)) (fun t ht hW => ⟨⟨0, (pl, z_65, 0, dg, sv), rfl, ⟨(Or.inl rfl), by (try dsimp only); have hsm : (65 ≤ a1.toInt ∧ a1.toInt ≤ 90 ∧ jfSm a1.toInt = a1.toInt + 32) ∨ ((a1.toInt < 65 ∨ 90 < a1.toInt) ∧ jfSm a1.toInt = a1.toInt) := (by unfold jfSm; split <;> omega); refine ⟨?_, by omega, by omega, by omega, by omega, by omega, by omega, by omega⟩; exact jfIn_n (by omega) rfl (by omega) (by omega) (by omega)⟩, hh_66.rt (M1 := [(r0, 4, 5, .int pl), (r0, 4, 8, .int z_65), (r0, 4, 9, .int 0), (r0, 4, 10, .int dg), (r0, 4, 11, .int sv)]) [2, 0, 1, 5, 6] rfl ht⟩, by rw [ht]; try exact hh_66.1.1, fun q h9 hq => by rw [ht]; try exact hh_66.1.2.1 q h9 hq⟩) hh_66.1.2.2 dX2_isInName_141
              · skip
                have c_69' : z_62.toInt ≤ 122 := jb_gt_n (rfl) ((by decide)) c_69
                refine lv_iconst (v := 1) hx hb dX2_isInName_136 (by decide) ?_
                refine lv_goto (tgt := 141) hx hb dX2_isInName_137 (by decide) ?_
                rw [hQ]
                exact W.zret (v := 1) hx hb hr (jb_nz (Or.inr rfl)) (fun t ht hW => ⟨⟨1, (pl, z_65, 0, dg, sv), rfl, ⟨(Or.inr rfl), by (try dsimp only); have hsm : (65 ≤ a1.toInt ∧ a1.toInt ≤ 90 ∧ jfSm a1.toInt = a1.toInt + 32) ∨ ((a1.toInt < 65 ∨ 90 < a1.toInt) ∧ jfSm a1.toInt = a1.toInt) := (by unfold jfSm; split <;> omega); refine ⟨?_, by omega, by omega, by omega, by omega, by omega, by omega, by omega⟩; exact jfIn_n (by omega) rfl (by omega) (by omega) (by omega)⟩, hh_66.rt (M1 := [(r0, 4, 5, .int pl), (r0, 4, 8, .int z_65), (r0, 4, 9, .int 0), (r0, 4, 10, .int dg), (r0, 4, 11, .int sv)]) [2, 0, 1, 5, 6] rfl ht⟩, by rw [ht]; try exact hh_66.1.1, fun q h9 hq => by rw [ht]; try exact hh_66.1.2.1 q h9 hq⟩) hh_66.1.2.2 dX2_isInName_141
        · skip
          have c_63' : il.toInt ≠ 0 := jb_eq_n (rfl) ((by decide)) c_63
          refine lv_aload_n hx hb dX2_isInName_75 rfl (lv_at hl 1 rfl) ?_
          refine j7_read hx hb hown hK (C := RX2) (T := TX2) (N := 12) rfl hly_4_8 hlk_54 (hh.at 3 rfl) dX2_isInName_76 ?_
          refine va_ldcS hx hb hown rstr60 dX2_isInName_79 ?_
          refine vp_callSi (W.runV (As := []) (rest := [.int sg, .ref r0]) ⟨hx, hb, hml, hown, hts⟩ (wJ0_length_8abf5 l dC dI ca base s.heap str60 14) (cwV 0 hts (jgV (jWr_18 _ (List.mem_of_getElem? (i := 11) rfl)) (jWr_5 _ (List.mem_of_getElem? (i := 13) rfl)) (jWr_5 _ (List.mem_of_getElem? (i := 14) rfl)) (jWr_5 _ (List.mem_of_getElem? (i := 15) rfl)) (jWr_5 _ (List.mem_of_getElem? (i := 16) rfl))) rfl rfl rfl (by decide +kernel) ⟨by rw [← hR]; exact Nat.le_of_ble_eq_true rfl, by rw [← hR]; exact Nat.le_of_ble_eq_true rfl⟩) ⟨fun a U g mk q => by obtain ⟨q0, q1, q2, qK, q9⟩ := q; exact ⟨q0, q1, (q2.moved (Vm.Alike.refl U.vm)), jG.calling g mk a qK, q9⟩, jStr_recv hstr60 hh.1, fun U hU hW => ⟨rfl, hU, (hstr60.moved hW.alike).kept hh.1.2.1, hG.step hW hU hh.1, by omega⟩⟩ rfl rfl hl.1 rfl (lv_room (Nat.le_of_ble_eq_true rfl)) dX2_isInName_81 ⟨Nat.zero_le _, Nat.zero_le _⟩) (fun r_70 hr_70 => ?_)
          refine lv_icmp_ge (tgt := 104) hx hb dX2_isInName_84 (by decide) (fun c_71 => ?_) (fun c_71 => ?_)
          · skip
            have c_71' : sg.toInt ≥ r_70.toInt := jb_ge (rfl) (rfl) c_71
            refine lv_iconst (v := 0) hx hb dX2_isInName_104 (by decide) ?_
            refine j7_put hx hb hown hK hh hB hAp hB4 (C := RX2) (T := TX2) (N := 12) rfl (by decide) hg_r0 (i := 9) (by decide) hly_4_9 rfl hlk_57 rfl (ty := .boolean) (v := .int 0) (by decide +kernel) (jb_nz (Or.inl rfl)) (jb_fz (Or.inl rfl)) (⟨_, rfl, (Or.inl rfl)⟩) rfl (L1 := [(r0, 4, 5, .int pl), (r0, 4, 6, .int to), (r0, 4, 2, .int ke), (r0, 4, 8, .int sg), (r0, 4, 10, .int dg), (r0, 4, 11, .int sv), (r0, 4, 7, .int fi)]) [0, 1, 2, 3, 5, 6, 7] rfl rfl rfl dX2_isInName_105 (fun H_72 locs_72 hh_72 => ?_)
            clear hh
            refine lv_aload_n hx hb dX2_isInName_108 rfl (lv_at hl 1 rfl) ?_
            refine lv_dup hx hb dX2_isInName_109 rfl ?_
            refine j7_read hx hb hown hK (C := RX2) (T := TX2) (N := 12) rfl hly_4_8 hlk_54 (hh_72.at 4 rfl) dX2_isInName_110 ?_
            refine lv_iconst (v := 1) hx hb dX2_isInName_113 (by decide) ?_
            refine lv_iadd hx hb dX2_isInName_114 ?_
            refine lv_topi (fun z_73 ez_73 => ?_)
            have hz_73 : z_73.toInt = sg.toInt + 1 := by rw [ez_73]; exact jb_iadd2 (rfl) ((by decide)) (by omega)
            refine j7_put hx hb hown hK hh_72 hB hAp hB4 (C := RX2) (T := TX2) (N := 12) rfl (by decide) hg_r0 (i := 8) (by decide) hly_4_8 rfl hlk_54 rfl (ty := .int) (v := .int z_73) (by decide +kernel) rfl rfl (⟨_, rfl⟩) rfl (L1 := [(r0, 4, 9, .int 0), (r0, 4, 5, .int pl), (r0, 4, 6, .int to), (r0, 4, 2, .int ke), (r0, 4, 10, .int dg), (r0, 4, 11, .int sv), (r0, 4, 7, .int fi)]) [0, 1, 2, 3, 5, 6, 7] rfl rfl rfl dX2_isInName_115 (fun H_74 locs_74 hh_74 => ?_)
            clear hh_72
            refine lv_iload_n hx hb dX2_isInName_118 rfl (lv_at hl 0 rfl) ?_
            refine lv_bipush (v := 45) hx hb dX2_isInName_119 (by decide) ?_
            refine lv_icmp_eq (tgt := 136) hx hb dX2_isInName_121 (by decide) (fun c_75 => ?_) (fun c_75 => ?_)
            · skip
              have c_75' : z_62.toInt = 45 := jb_eq (rfl) ((by decide)) c_75
              refine lv_iconst (v := 1) hx hb dX2_isInName_136 (by decide) ?_
              refine lv_goto (tgt := 141) hx hb dX2_isInName_137 (by decide) ?_
              rw [hQ]
              exact W.zret (v := 1) hx hb hr (jb_nz (Or.inr rfl)) (fun t ht hW => ⟨⟨1, (pl, z_73, 0, dg, sv), rfl, ⟨(Or.inr rfl), by (try dsimp only); have hsm : (65 ≤ a1.toInt ∧ a1.toInt ≤ 90 ∧ jfSm a1.toInt = a1.toInt + 32) ∨ ((a1.toInt < 65 ∨ 90 < a1.toInt) ∧ jfSm a1.toInt = a1.toInt) := (by unfold jfSm; split <;> omega); refine ⟨?_, by omega, by omega, by omega, by omega, by omega, by omega, by omega⟩; exact jfIn_n (by omega) rfl (by omega) (by omega) (by omega)⟩, hh_74.rt (M1 := [(r0, 4, 5, .int pl), (r0, 4, 8, .int z_73), (r0, 4, 9, .int 0), (r0, 4, 10, .int dg), (r0, 4, 11, .int sv)]) [2, 0, 1, 5, 6] rfl ht⟩, by rw [ht]; try exact hh_74.1.1, fun q h9 hq => by rw [ht]; try exact hh_74.1.2.1 q h9 hq⟩) hh_74.1.2.2 dX2_isInName_141
            · skip
              have c_75' : z_62.toInt ≠ 45 := jb_eq_n (rfl) ((by decide)) c_75
              refine lv_iload_n hx hb dX2_isInName_124 rfl (lv_at hl 0 rfl) ?_
              refine lv_bipush (v := 97) hx hb dX2_isInName_125 (by decide) ?_
              refine lv_icmp_lt (tgt := 140) hx hb dX2_isInName_127 (by decide) (fun c_76 => ?_) (fun c_76 => ?_)
              · skip
                have c_76' : z_62.toInt < 97 := jb_lt (rfl) ((by decide)) c_76
                refine lv_iconst (v := 0) hx hb dX2_isInName_140 (by decide) ?_
                rw [hQ]
                exact W.zret (v := 0) hx hb hr (jb_nz (Or.inl rfl)) (fun t ht hW => ⟨⟨0, (pl, z_73, 0, dg, sv), rfl, ⟨(Or.inl rfl), by (try dsimp only); have hsm : (65 ≤ a1.toInt ∧ a1.toInt ≤ 90 ∧ jfSm a1.toInt = a1.toInt + 32) ∨ ((a1.toInt < 65 ∨ 90 < a1.toInt) ∧ jfSm a1.toInt = a1.toInt) := (by unfold jfSm; split <;> omega); refine ⟨?_, by omega, by omega, by omega, by omega, by omega, by omega, by omega⟩; exact jfIn_n (by omega) rfl (by omega) (by omega) (by omega)⟩, hh_74.rt (M1 := [(r0, 4, 5, .int pl), (r0, 4, 8, .int z_73), (r0, 4, 9, .int 0), (r0, 4, 10, .int dg), (r0, 4, 11, .int sv)]) [2, 0, 1, 5, 6] rfl ht⟩, by rw [ht]; try exact hh_74.1.1, fun q h9 hq => by rw [ht]; try exact hh_74.1.2.1 q h9 hq⟩) hh_74.1.2.2 dX2_isInName_141
              · skip
                have c_76' : z_62.toInt ≥ 97 := jb_lt_n (rfl) ((by decide)) c_76
                refine lv_iload_n hx hb dX2_isInName_130 rfl (lv_at hl 0 rfl) ?_
                refine lv_bipush (v := 122) hx hb dX2_isInName_131 (by decide) ?_
                refine lv_icmp_gt (tgt := 140) hx hb dX2_isInName_133 (by decide) (fun c_77 => ?_) (fun c_77 => ?_)
                · skip
                  have c_77' : z_62.toInt > 122 := jb_gt (rfl) ((by decide)) c_77
                  refine lv_iconst (v := 0) hx hb dX2_isInName_140 (by decide) ?_
                  rw [hQ]
                  exact W.zret (v := 0) hx hb hr (jb_nz (Or.inl rfl)) (fun t ht hW => ⟨⟨0, (pl, z_73, 0, dg, sv), rfl, ⟨(Or.inl rfl), by (try dsimp only); have hsm : (65 ≤ a1.toInt ∧ a1.toInt ≤ 90 ∧ jfSm a1.toInt = a1.toInt + 32) ∨ ((a1.toInt < 65 ∨ 90 < a1.toInt) ∧ jfSm a1.toInt = a1.toInt) := (by unfold jfSm; split <;> omega); refine ⟨?_, by omega, by omega, by omega, by omega, by omega, by omega, by omega⟩; exact jfIn_n (by omega) rfl (by omega) (by omega) (by omega)⟩, hh_74.rt (M1 := [(r0, 4, 5, .int pl), (r0, 4, 8, .int z_73), (r0, 4, 9, .int 0), (r0, 4, 10, .int dg), (r0, 4, 11, .int sv)]) [2, 0, 1, 5, 6] rfl ht⟩, by rw [ht]; try exact hh_74.1.1, fun q h9 hq => by rw [ht]; try exact hh_74.1.2.1 q h9 hq⟩) hh_74.1.2.2 dX2_isInName_141
                · skip
                  have c_77' : z_62.toInt ≤ 122 := jb_gt_n (rfl) ((by decide)) c_77
                  refine lv_iconst (v := 1) hx hb dX2_isInName_136 (by decide) ?_
                  refine lv_goto (tgt := 141) hx hb dX2_isInName_137 (by decide) ?_
                  rw [hQ]
                  exact W.zret (v := 1) hx hb hr (jb_nz (Or.inr rfl)) (fun t ht hW => ⟨⟨1, (pl, z_73, 0, dg, sv), rfl, ⟨(Or.inr rfl), by (try dsimp only); have hsm : (65 ≤ a1.toInt ∧ a1.toInt ≤ 90 ∧ jfSm a1.toInt = a1.toInt + 32) ∨ ((a1.toInt < 65 ∨ 90 < a1.toInt) ∧ jfSm a1.toInt = a1.toInt) := (by unfold jfSm; split <;> omega); refine ⟨?_, by omega, by omega, by omega, by omega, by omega, by omega, by omega⟩; exact jfIn_n (by omega) rfl (by omega) (by omega) (by omega)⟩, hh_74.rt (M1 := [(r0, 4, 5, .int pl), (r0, 4, 8, .int z_73), (r0, 4, 9, .int 0), (r0, 4, 10, .int dg), (r0, 4, 11, .int sv)]) [2, 0, 1, 5, 6] rfl ht⟩, by rw [ht]; try exact hh_74.1.1, fun q h9 hq => by rw [ht]; try exact hh_74.1.2.1 q h9 hq⟩) hh_74.1.2.2 dX2_isInName_141
          · skip
            have c_71' : sg.toInt < r_70.toInt := jb_ge_n (rfl) (rfl) c_71
            refine va_ldcS hx hb hown rstr60 dX2_isInName_87 ?_
            refine lv_aload_n hx hb dX2_isInName_89 rfl (lv_at hl 1 rfl) ?_
            refine j7_read hx hb hown hK (C := RX2) (T := TX2) (N := 12) rfl hly_4_8 hlk_54 (hh.at 3 rfl) dX2_isInName_90 ?_
            refine vp_callSi (W.runV (As := [.int sg]) (rest := [.ref r0]) ⟨hx, hb, hml, hown, hts⟩ (eJ0_charAt_5068e l dC dI ca base s.heap str60 14 (jChT "content-length") sg) (cwV 1 hts (jgV (jWr_18 _ (List.mem_of_getElem? (i := 12) rfl)) (jWr_6 _ (List.mem_of_getElem? (i := 1) rfl)) (jWr_6 _ (List.mem_of_getElem? (i := 2) rfl)) (jWr_5 _ (List.mem_of_getElem? (i := 15) rfl)) (jWr_6 _ (List.mem_of_getElem? (i := 3) rfl))) rfl rfl rfl (by decide +kernel) ⟨by rw [← hR]; exact Nat.le_of_ble_eq_true rfl, by rw [← hR]; exact Nat.le_of_ble_eq_true rfl⟩) ⟨fun a U g mk q => by obtain ⟨q0, q1, q2, qK, q9⟩ := q; exact ⟨q0, q1, (q2.moved (Vm.Alike.refl U.vm)), jG.calling g mk a qK, q9⟩, jStr_recv hstr60 hh.1, fun U hU hW => ⟨rfl, hU, (hTstr60.moved hW.alike).kept hh.1.2.1, hG.step hW hU hh.1, ⟨by omega, by omega, by omega⟩⟩⟩ rfl rfl hl.1 rfl (lv_room (Nat.le_of_ble_eq_true rfl)) dX2_isInName_93 ⟨Nat.zero_le _, Nat.zero_le _⟩) (fun r_78 hr_78 => ?_)
            refine lv_iload_n hx hb dX2_isInName_96 rfl (lv_at hl 0 rfl) ?_
            have hch : r_78.toInt = jfC sg.toInt := by unfold jfC; rw [hr_78]
            refine lv_icmp_ne (tgt := 104) hx hb dX2_isInName_97 (by decide) (fun c_79 => ?_) (fun c_79 => ?_)
            · skip
              have c_79' : r_78.toInt ≠ z_62.toInt := jb_ne (rfl) (rfl) c_79
              refine lv_iconst (v := 0) hx hb dX2_isInName_104 (by decide) ?_
              refine j7_put hx hb hown hK hh hB hAp hB4 (C := RX2) (T := TX2) (N := 12) rfl (by decide) hg_r0 (i := 9) (by decide) hly_4_9 rfl hlk_57 rfl (ty := .boolean) (v := .int 0) (by decide +kernel) (jb_nz (Or.inl rfl)) (jb_fz (Or.inl rfl)) (⟨_, rfl, (Or.inl rfl)⟩) rfl (L1 := [(r0, 4, 5, .int pl), (r0, 4, 6, .int to), (r0, 4, 2, .int ke), (r0, 4, 8, .int sg), (r0, 4, 10, .int dg), (r0, 4, 11, .int sv), (r0, 4, 7, .int fi)]) [0, 1, 2, 3, 5, 6, 7] rfl rfl rfl dX2_isInName_105 (fun H_80 locs_80 hh_80 => ?_)
              clear hh
              refine lv_aload_n hx hb dX2_isInName_108 rfl (lv_at hl 1 rfl) ?_
              refine lv_dup hx hb dX2_isInName_109 rfl ?_
              refine j7_read hx hb hown hK (C := RX2) (T := TX2) (N := 12) rfl hly_4_8 hlk_54 (hh_80.at 4 rfl) dX2_isInName_110 ?_
              refine lv_iconst (v := 1) hx hb dX2_isInName_113 (by decide) ?_
              refine lv_iadd hx hb dX2_isInName_114 ?_
              refine lv_topi (fun z_81 ez_81 => ?_)
              have hz_81 : z_81.toInt = sg.toInt + 1 := by rw [ez_81]; exact jb_iadd2 (rfl) ((by decide)) (by omega)
              refine j7_put hx hb hown hK hh_80 hB hAp hB4 (C := RX2) (T := TX2) (N := 12) rfl (by decide) hg_r0 (i := 8) (by decide) hly_4_8 rfl hlk_54 rfl (ty := .int) (v := .int z_81) (by decide +kernel) rfl rfl (⟨_, rfl⟩) rfl (L1 := [(r0, 4, 9, .int 0), (r0, 4, 5, .int pl), (r0, 4, 6, .int to), (r0, 4, 2, .int ke), (r0, 4, 10, .int dg), (r0, 4, 11, .int sv), (r0, 4, 7, .int fi)]) [0, 1, 2, 3, 5, 6, 7] rfl rfl rfl dX2_isInName_115 (fun H_82 locs_82 hh_82 => ?_)
              clear hh_80
              refine lv_iload_n hx hb dX2_isInName_118 rfl (lv_at hl 0 rfl) ?_
              refine lv_bipush (v := 45) hx hb dX2_isInName_119 (by decide) ?_
              refine lv_icmp_eq (tgt := 136) hx hb dX2_isInName_121 (by decide) (fun c_83 => ?_) (fun c_83 => ?_)
              · skip
                have c_83' : z_62.toInt = 45 := jb_eq (rfl) ((by decide)) c_83
                refine lv_iconst (v := 1) hx hb dX2_isInName_136 (by decide) ?_
                refine lv_goto (tgt := 141) hx hb dX2_isInName_137 (by decide) ?_
                rw [hQ]
                exact W.zret (v := 1) hx hb hr (jb_nz (Or.inr rfl)) (fun t ht hW => ⟨⟨1, (pl, z_81, 0, dg, sv), rfl, ⟨(Or.inr rfl), by (try dsimp only); have hsm : (65 ≤ a1.toInt ∧ a1.toInt ≤ 90 ∧ jfSm a1.toInt = a1.toInt + 32) ∨ ((a1.toInt < 65 ∨ 90 < a1.toInt) ∧ jfSm a1.toInt = a1.toInt) := (by unfold jfSm; split <;> omega); refine ⟨?_, by omega, by omega, by omega, by omega, by omega, by omega, by omega⟩; exact jfIn_n (by omega) rfl (by omega) (by omega) (by omega)⟩, hh_82.rt (M1 := [(r0, 4, 5, .int pl), (r0, 4, 8, .int z_81), (r0, 4, 9, .int 0), (r0, 4, 10, .int dg), (r0, 4, 11, .int sv)]) [2, 0, 1, 5, 6] rfl ht⟩, by rw [ht]; try exact hh_82.1.1, fun q h9 hq => by rw [ht]; try exact hh_82.1.2.1 q h9 hq⟩) hh_82.1.2.2 dX2_isInName_141
              · skip
                have c_83' : z_62.toInt ≠ 45 := jb_eq_n (rfl) ((by decide)) c_83
                refine lv_iload_n hx hb dX2_isInName_124 rfl (lv_at hl 0 rfl) ?_
                refine lv_bipush (v := 97) hx hb dX2_isInName_125 (by decide) ?_
                refine lv_icmp_lt (tgt := 140) hx hb dX2_isInName_127 (by decide) (fun c_84 => ?_) (fun c_84 => ?_)
                · skip
                  have c_84' : z_62.toInt < 97 := jb_lt (rfl) ((by decide)) c_84
                  refine lv_iconst (v := 0) hx hb dX2_isInName_140 (by decide) ?_
                  rw [hQ]
                  exact W.zret (v := 0) hx hb hr (jb_nz (Or.inl rfl)) (fun t ht hW => ⟨⟨0, (pl, z_81, 0, dg, sv), rfl, ⟨(Or.inl rfl), by (try dsimp only); have hsm : (65 ≤ a1.toInt ∧ a1.toInt ≤ 90 ∧ jfSm a1.toInt = a1.toInt + 32) ∨ ((a1.toInt < 65 ∨ 90 < a1.toInt) ∧ jfSm a1.toInt = a1.toInt) := (by unfold jfSm; split <;> omega); refine ⟨?_, by omega, by omega, by omega, by omega, by omega, by omega, by omega⟩; exact jfIn_n (by omega) rfl (by omega) (by omega) (by omega)⟩, hh_82.rt (M1 := [(r0, 4, 5, .int pl), (r0, 4, 8, .int z_81), (r0, 4, 9, .int 0), (r0, 4, 10, .int dg), (r0, 4, 11, .int sv)]) [2, 0, 1, 5, 6] rfl ht⟩, by rw [ht]; try exact hh_82.1.1, fun q h9 hq => by rw [ht]; try exact hh_82.1.2.1 q h9 hq⟩) hh_82.1.2.2 dX2_isInName_141
                · skip
                  have c_84' : z_62.toInt ≥ 97 := jb_lt_n (rfl) ((by decide)) c_84
                  refine lv_iload_n hx hb dX2_isInName_130 rfl (lv_at hl 0 rfl) ?_
                  refine lv_bipush (v := 122) hx hb dX2_isInName_131 (by decide) ?_
                  refine lv_icmp_gt (tgt := 140) hx hb dX2_isInName_133 (by decide) (fun c_85 => ?_) (fun c_85 => ?_)
                  · skip
                    have c_85' : z_62.toInt > 122 := jb_gt (rfl) ((by decide)) c_85
                    refine lv_iconst (v := 0) hx hb dX2_isInName_140 (by decide) ?_
                    rw [hQ]
                    exact W.zret (v := 0) hx hb hr (jb_nz (Or.inl rfl)) (fun t ht hW => ⟨⟨0, (pl, z_81, 0, dg, sv), rfl, ⟨(Or.inl rfl), by (try dsimp only); have hsm : (65 ≤ a1.toInt ∧ a1.toInt ≤ 90 ∧ jfSm a1.toInt = a1.toInt + 32) ∨ ((a1.toInt < 65 ∨ 90 < a1.toInt) ∧ jfSm a1.toInt = a1.toInt) := (by unfold jfSm; split <;> omega); refine ⟨?_, by omega, by omega, by omega, by omega, by omega, by omega, by omega⟩; exact jfIn_n (by omega) rfl (by omega) (by omega) (by omega)⟩, hh_82.rt (M1 := [(r0, 4, 5, .int pl), (r0, 4, 8, .int z_81), (r0, 4, 9, .int 0), (r0, 4, 10, .int dg), (r0, 4, 11, .int sv)]) [2, 0, 1, 5, 6] rfl ht⟩, by rw [ht]; try exact hh_82.1.1, fun q h9 hq => by rw [ht]; try exact hh_82.1.2.1 q h9 hq⟩) hh_82.1.2.2 dX2_isInName_141
                  · skip
                    have c_85' : z_62.toInt ≤ 122 := jb_gt_n (rfl) ((by decide)) c_85
                    refine lv_iconst (v := 1) hx hb dX2_isInName_136 (by decide) ?_
                    refine lv_goto (tgt := 141) hx hb dX2_isInName_137 (by decide) ?_
                    rw [hQ]
                    exact W.zret (v := 1) hx hb hr (jb_nz (Or.inr rfl)) (fun t ht hW => ⟨⟨1, (pl, z_81, 0, dg, sv), rfl, ⟨(Or.inr rfl), by (try dsimp only); have hsm : (65 ≤ a1.toInt ∧ a1.toInt ≤ 90 ∧ jfSm a1.toInt = a1.toInt + 32) ∨ ((a1.toInt < 65 ∨ 90 < a1.toInt) ∧ jfSm a1.toInt = a1.toInt) := (by unfold jfSm; split <;> omega); refine ⟨?_, by omega, by omega, by omega, by omega, by omega, by omega, by omega⟩; exact jfIn_n (by omega) rfl (by omega) (by omega) (by omega)⟩, hh_82.rt (M1 := [(r0, 4, 5, .int pl), (r0, 4, 8, .int z_81), (r0, 4, 9, .int 0), (r0, 4, 10, .int dg), (r0, 4, 11, .int sv)]) [2, 0, 1, 5, 6] rfl ht⟩, by rw [ht]; try exact hh_82.1.1, fun q h9 hq => by rw [ht]; try exact hh_82.1.2.1 q h9 hq⟩) hh_82.1.2.2 dX2_isInName_141
            · skip
              have c_79' : r_78.toInt = z_62.toInt := jb_ne_n (rfl) (rfl) c_79
              refine lv_iconst (v := 1) hx hb dX2_isInName_100 (by decide) ?_
              refine lv_goto (tgt := 105) hx hb dX2_isInName_101 (by decide) ?_
              refine j7_put hx hb hown hK hh hB hAp hB4 (C := RX2) (T := TX2) (N := 12) rfl (by decide) hg_r0 (i := 9) (by decide) hly_4_9 rfl hlk_57 rfl (ty := .boolean) (v := .int 1) (by decide +kernel) (jb_nz (Or.inr rfl)) (jb_fz (Or.inr rfl)) (⟨_, rfl, (Or.inr rfl)⟩) rfl (L1 := [(r0, 4, 5, .int pl), (r0, 4, 6, .int to), (r0, 4, 2, .int ke), (r0, 4, 8, .int sg), (r0, 4, 10, .int dg), (r0, 4, 11, .int sv), (r0, 4, 7, .int fi)]) [0, 1, 2, 3, 5, 6, 7] rfl rfl rfl dX2_isInName_105 (fun H_86 locs_86 hh_86 => ?_)
              clear hh
              refine lv_aload_n hx hb dX2_isInName_108 rfl (lv_at hl 1 rfl) ?_
              refine lv_dup hx hb dX2_isInName_109 rfl ?_
              refine j7_read hx hb hown hK (C := RX2) (T := TX2) (N := 12) rfl hly_4_8 hlk_54 (hh_86.at 4 rfl) dX2_isInName_110 ?_
              refine lv_iconst (v := 1) hx hb dX2_isInName_113 (by decide) ?_
              refine lv_iadd hx hb dX2_isInName_114 ?_
              refine lv_topi (fun z_87 ez_87 => ?_)
              have hz_87 : z_87.toInt = sg.toInt + 1 := by rw [ez_87]; exact jb_iadd2 (rfl) ((by decide)) (by omega)
              refine j7_put hx hb hown hK hh_86 hB hAp hB4 (C := RX2) (T := TX2) (N := 12) rfl (by decide) hg_r0 (i := 8) (by decide) hly_4_8 rfl hlk_54 rfl (ty := .int) (v := .int z_87) (by decide +kernel) rfl rfl (⟨_, rfl⟩) rfl (L1 := [(r0, 4, 9, .int 1), (r0, 4, 5, .int pl), (r0, 4, 6, .int to), (r0, 4, 2, .int ke), (r0, 4, 10, .int dg), (r0, 4, 11, .int sv), (r0, 4, 7, .int fi)]) [0, 1, 2, 3, 5, 6, 7] rfl rfl rfl dX2_isInName_115 (fun H_88 locs_88 hh_88 => ?_)
              clear hh_86
              refine lv_iload_n hx hb dX2_isInName_118 rfl (lv_at hl 0 rfl) ?_
              refine lv_bipush (v := 45) hx hb dX2_isInName_119 (by decide) ?_
              refine lv_icmp_eq (tgt := 136) hx hb dX2_isInName_121 (by decide) (fun c_89 => ?_) (fun c_89 => ?_)
              · skip
                have c_89' : z_62.toInt = 45 := jb_eq (rfl) ((by decide)) c_89
                refine lv_iconst (v := 1) hx hb dX2_isInName_136 (by decide) ?_
                refine lv_goto (tgt := 141) hx hb dX2_isInName_137 (by decide) ?_
                rw [hQ]
                exact W.zret (v := 1) hx hb hr (jb_nz (Or.inr rfl)) (fun t ht hW => ⟨⟨1, (pl, z_87, 1, dg, sv), rfl, ⟨(Or.inr rfl), by (try dsimp only); have hsm : (65 ≤ a1.toInt ∧ a1.toInt ≤ 90 ∧ jfSm a1.toInt = a1.toInt + 32) ∨ ((a1.toInt < 65 ∨ 90 < a1.toInt) ∧ jfSm a1.toInt = a1.toInt) := (by unfold jfSm; split <;> omega); refine ⟨?_, by omega, by omega, by omega, by omega, by omega, by omega, by omega⟩; exact jfIn_n (by omega) rfl (by omega) (by omega) (by omega)⟩, hh_88.rt (M1 := [(r0, 4, 5, .int pl), (r0, 4, 8, .int z_87), (r0, 4, 9, .int 1), (r0, 4, 10, .int dg), (r0, 4, 11, .int sv)]) [2, 0, 1, 5, 6] rfl ht⟩, by rw [ht]; try exact hh_88.1.1, fun q h9 hq => by rw [ht]; try exact hh_88.1.2.1 q h9 hq⟩) hh_88.1.2.2 dX2_isInName_141
              · skip
                have c_89' : z_62.toInt ≠ 45 := jb_eq_n (rfl) ((by decide)) c_89
                refine lv_iload_n hx hb dX2_isInName_124 rfl (lv_at hl 0 rfl) ?_
                refine lv_bipush (v := 97) hx hb dX2_isInName_125 (by decide) ?_
                refine lv_icmp_lt (tgt := 140) hx hb dX2_isInName_127 (by decide) (fun c_90 => ?_) (fun c_90 => ?_)
                · skip
                  have c_90' : z_62.toInt < 97 := jb_lt (rfl) ((by decide)) c_90
                  refine lv_iconst (v := 0) hx hb dX2_isInName_140 (by decide) ?_
                  rw [hQ]
                  exact W.zret (v := 0) hx hb hr (jb_nz (Or.inl rfl)) (fun t ht hW => ⟨⟨0, (pl, z_87, 1, dg, sv), rfl, ⟨(Or.inl rfl), by (try dsimp only); have hsm : (65 ≤ a1.toInt ∧ a1.toInt ≤ 90 ∧ jfSm a1.toInt = a1.toInt + 32) ∨ ((a1.toInt < 65 ∨ 90 < a1.toInt) ∧ jfSm a1.toInt = a1.toInt) := (by unfold jfSm; split <;> omega); refine ⟨?_, by omega, by omega, by omega, by omega, by omega, by omega, by omega⟩; exact jfIn_n (by omega) rfl (by omega) (by omega) (by omega)⟩, hh_88.rt (M1 := [(r0, 4, 5, .int pl), (r0, 4, 8, .int z_87), (r0, 4, 9, .int 1), (r0, 4, 10, .int dg), (r0, 4, 11, .int sv)]) [2, 0, 1, 5, 6] rfl ht⟩, by rw [ht]; try exact hh_88.1.1, fun q h9 hq => by rw [ht]; try exact hh_88.1.2.1 q h9 hq⟩) hh_88.1.2.2 dX2_isInName_141
                · skip
                  have c_90' : z_62.toInt ≥ 97 := jb_lt_n (rfl) ((by decide)) c_90
                  refine lv_iload_n hx hb dX2_isInName_130 rfl (lv_at hl 0 rfl) ?_
                  refine lv_bipush (v := 122) hx hb dX2_isInName_131 (by decide) ?_
                  refine lv_icmp_gt (tgt := 140) hx hb dX2_isInName_133 (by decide) (fun c_91 => ?_) (fun c_91 => ?_)
                  · skip
                    have c_91' : z_62.toInt > 122 := jb_gt (rfl) ((by decide)) c_91
                    refine lv_iconst (v := 0) hx hb dX2_isInName_140 (by decide) ?_
                    rw [hQ]
                    exact W.zret (v := 0) hx hb hr (jb_nz (Or.inl rfl)) (fun t ht hW => ⟨⟨0, (pl, z_87, 1, dg, sv), rfl, ⟨(Or.inl rfl), by (try dsimp only); have hsm : (65 ≤ a1.toInt ∧ a1.toInt ≤ 90 ∧ jfSm a1.toInt = a1.toInt + 32) ∨ ((a1.toInt < 65 ∨ 90 < a1.toInt) ∧ jfSm a1.toInt = a1.toInt) := (by unfold jfSm; split <;> omega); refine ⟨?_, by omega, by omega, by omega, by omega, by omega, by omega, by omega⟩; exact jfIn_n (by omega) rfl (by omega) (by omega) (by omega)⟩, hh_88.rt (M1 := [(r0, 4, 5, .int pl), (r0, 4, 8, .int z_87), (r0, 4, 9, .int 1), (r0, 4, 10, .int dg), (r0, 4, 11, .int sv)]) [2, 0, 1, 5, 6] rfl ht⟩, by rw [ht]; try exact hh_88.1.1, fun q h9 hq => by rw [ht]; try exact hh_88.1.2.1 q h9 hq⟩) hh_88.1.2.2 dX2_isInName_141
                  · skip
                    have c_91' : z_62.toInt ≤ 122 := jb_gt_n (rfl) ((by decide)) c_91
                    refine lv_iconst (v := 1) hx hb dX2_isInName_136 (by decide) ?_
                    refine lv_goto (tgt := 141) hx hb dX2_isInName_137 (by decide) ?_
                    rw [hQ]
                    exact W.zret (v := 1) hx hb hr (jb_nz (Or.inr rfl)) (fun t ht hW => ⟨⟨1, (pl, z_87, 1, dg, sv), rfl, ⟨(Or.inr rfl), by (try dsimp only); have hsm : (65 ≤ a1.toInt ∧ a1.toInt ≤ 90 ∧ jfSm a1.toInt = a1.toInt + 32) ∨ ((a1.toInt < 65 ∨ 90 < a1.toInt) ∧ jfSm a1.toInt = a1.toInt) := (by unfold jfSm; split <;> omega); refine ⟨?_, by omega, by omega, by omega, by omega, by omega, by omega, by omega⟩; exact jfIn_n (by omega) rfl (by omega) (by omega) (by omega)⟩, hh_88.rt (M1 := [(r0, 4, 5, .int pl), (r0, 4, 8, .int z_87), (r0, 4, 9, .int 1), (r0, 4, 10, .int dg), (r0, 4, 11, .int sv)]) [2, 0, 1, 5, 6] rfl ht⟩, by rw [ht]; try exact hh_88.1.1, fun q h9 hq => by rw [ht]; try exact hh_88.1.2.1 q h9 hq⟩) hh_88.1.2.2 dX2_isInName_141
  · skip
    have c_1' : a1.toInt = 58 := jb_ne_n (rfl) ((by decide)) c_1
    refine lv_aload_n hx hb dX2_isInName_6 rfl (lv_at hl 0 rfl) ?_
    refine lv_aload_n hx hb dX2_isInName_7 rfl (lv_at hl 0 rfl) ?_
    refine j7_read hx hb hown hK (C := RX2) (T := TX2) (N := 12) rfl hly_4_9 hlk_57 (hh.at 4 rfl) dX2_isInName_8 ?_
    refine lv_if_eq (tgt := 30) hx hb dX2_isInName_11 (by decide) (fun c_92 => ?_) (fun c_92 => ?_)
    · skip
      have c_92' : il.toInt = 0 := jb_eq (rfl) ((by decide)) c_92
      refine lv_iconst (v := 2) hx hb dX2_isInName_30 (by decide) ?_
      refine j7_put hx hb hown hK hh hB hAp hB4 (C := RX2) (T := TX2) (N := 12) rfl (by decide) hg_r0 (i := 5) (by decide) hly_4_5 rfl hlk_15 rfl (ty := .int) (v := .int 2) (by decide +kernel) rfl rfl (⟨_, rfl⟩) rfl (L1 := [(r0, 4, 6, .int to), (r0, 4, 2, .int ke), (r0, 4, 8, .int sg), (r0, 4, 9, .int il), (r0, 4, 10, .int dg), (r0, 4, 11, .int sv), (r0, 4, 7, .int fi)]) [1, 2, 3, 4, 5, 6, 7] rfl rfl rfl dX2_isInName_31 (fun H_93 locs_93 hh_93 => ?_)
      clear hh
      refine lv_aload_n hx hb dX2_isInName_34 rfl (lv_at hl 0 rfl) ?_
      refine lv_iconst (v := 0) hx hb dX2_isInName_35 (by decide) ?_
      refine j7_put hx hb hown hK hh_93 hB hAp hB4 (C := RX2) (T := TX2) (N := 12) rfl (by decide) hg_r0 (i := 10) (by decide) hly_4_10 rfl hlk_67 rfl (ty := .int) (v := .int 0) (by decide +kernel) rfl rfl (⟨_, rfl⟩) rfl (L1 := [(r0, 4, 5, .int 2), (r0, 4, 6, .int to), (r0, 4, 2, .int ke), (r0, 4, 8, .int sg), (r0, 4, 9, .int il), (r0, 4, 11, .int sv), (r0, 4, 7, .int fi)]) [0, 1, 2, 3, 4, 6, 7] rfl rfl rfl dX2_isInName_36 (fun H_94 locs_94 hh_94 => ?_)
      clear hh_93
      refine lv_aload_n hx hb dX2_isInName_39 rfl (lv_at hl 0 rfl) ?_
      refine lv_iconst (v := 0) hx hb dX2_isInName_40 (by decide) ?_
      refine j7_put hx hb hown hK hh_94 hB hAp hB4 (C := RX2) (T := TX2) (N := 12) rfl (by decide) hg_r0 (i := 11) (by decide) hly_4_11 rfl hlk_70 rfl (ty := .int) (v := .int 0) (by decide +kernel) rfl rfl (⟨_, rfl, by omega, by omega⟩) rfl (L1 := [(r0, 4, 10, .int 0), (r0, 4, 5, .int 2), (r0, 4, 6, .int to), (r0, 4, 2, .int ke), (r0, 4, 8, .int sg), (r0, 4, 9, .int il), (r0, 4, 7, .int fi)]) [0, 1, 2, 3, 4, 5, 7] rfl rfl rfl dX2_isInName_41 (fun H_95 locs_95 hh_95 => ?_)
      clear hh_94
      refine lv_iconst (v := 1) hx hb dX2_isInName_44 (by decide) ?_
      rw [hQ]
      exact W.zret (v := 1) hx hb hr (jb_nz (Or.inr rfl)) (fun t ht hW => ⟨⟨1, (2, sg, il, 0, 0), rfl, ⟨(Or.inr rfl), by (try dsimp only); have hsm : (65 ≤ a1.toInt ∧ a1.toInt ≤ 90 ∧ jfSm a1.toInt = a1.toInt + 32) ∨ ((a1.toInt < 65 ∨ 90 < a1.toInt) ∧ jfSm a1.toInt = a1.toInt) := (by unfold jfSm; split <;> omega); refine ⟨?_, by omega, by omega, by omega, by omega, by omega, by omega, by omega⟩; exact jfIn_c (by omega) (by omega) (by omega) (by omega) (by omega)⟩, hh_95.rt (M1 := [(r0, 4, 5, .int 2), (r0, 4, 8, .int sg), (r0, 4, 9, .int il), (r0, 4, 10, .int 0), (r0, 4, 11, .int 0)]) [2, 5, 6, 1, 0] rfl ht⟩, by rw [ht]; try exact hh_95.1.1, fun q h9 hq => by rw [ht]; try exact hh_95.1.2.1 q h9 hq⟩) hh_95.1.2.2 dX2_isInName_45
    · skip
      have c_92' : il.toInt ≠ 0 := jb_eq_n (rfl) ((by decide)) c_92
      refine lv_aload_n hx hb dX2_isInName_14 rfl (lv_at hl 0 rfl) ?_
      refine j7_read hx hb hown hK (C := RX2) (T := TX2) (N := 12) rfl hly_4_8 hlk_54 (hh.at 3 rfl) dX2_isInName_15 ?_
      refine va_ldcS hx hb hown rstr60 dX2_isInName_18 ?_
      refine vp_callSi (W.runV (As := []) (rest := [.int sg, .ref r0]) ⟨hx, hb, hml, hown, hts⟩ (wJ0_length_8abf5 l dC dI ca base s.heap str60 14) (cwV 0 hts (jgV (jWr_18 _ (List.mem_of_getElem? (i := 11) rfl)) (jWr_5 _ (List.mem_of_getElem? (i := 13) rfl)) (jWr_5 _ (List.mem_of_getElem? (i := 14) rfl)) (jWr_5 _ (List.mem_of_getElem? (i := 15) rfl)) (jWr_5 _ (List.mem_of_getElem? (i := 16) rfl))) rfl rfl rfl (by decide +kernel) ⟨by rw [← hR]; exact Nat.le_of_ble_eq_true rfl, by rw [← hR]; exact Nat.le_of_ble_eq_true rfl⟩) ⟨fun a U g mk q => by obtain ⟨q0, q1, q2, qK, q9⟩ := q; exact ⟨q0, q1, (q2.moved (Vm.Alike.refl U.vm)), jG.calling g mk a qK, q9⟩, jStr_recv hstr60 hh.1, fun U hU hW => ⟨rfl, hU, (hstr60.moved hW.alike).kept hh.1.2.1, hG.step hW hU hh.1, by omega⟩⟩ rfl rfl hl.1 rfl (lv_room (Nat.le_of_ble_eq_true rfl)) dX2_isInName_20 ⟨Nat.zero_le _, Nat.zero_le _⟩) (fun r_96 hr_96 => ?_)
      refine lv_icmp_ne (tgt := 30) hx hb dX2_isInName_23 (by decide) (fun c_97 => ?_) (fun c_97 => ?_)
      · skip
        have c_97' : sg.toInt ≠ r_96.toInt := jb_ne (rfl) (rfl) c_97
        refine lv_iconst (v := 2) hx hb dX2_isInName_30 (by decide) ?_
        refine j7_put hx hb hown hK hh hB hAp hB4 (C := RX2) (T := TX2) (N := 12) rfl (by decide) hg_r0 (i := 5) (by decide) hly_4_5 rfl hlk_15 rfl (ty := .int) (v := .int 2) (by decide +kernel) rfl rfl (⟨_, rfl⟩) rfl (L1 := [(r0, 4, 6, .int to), (r0, 4, 2, .int ke), (r0, 4, 8, .int sg), (r0, 4, 9, .int il), (r0, 4, 10, .int dg), (r0, 4, 11, .int sv), (r0, 4, 7, .int fi)]) [1, 2, 3, 4, 5, 6, 7] rfl rfl rfl dX2_isInName_31 (fun H_98 locs_98 hh_98 => ?_)
        clear hh
        refine lv_aload_n hx hb dX2_isInName_34 rfl (lv_at hl 0 rfl) ?_
        refine lv_iconst (v := 0) hx hb dX2_isInName_35 (by decide) ?_
        refine j7_put hx hb hown hK hh_98 hB hAp hB4 (C := RX2) (T := TX2) (N := 12) rfl (by decide) hg_r0 (i := 10) (by decide) hly_4_10 rfl hlk_67 rfl (ty := .int) (v := .int 0) (by decide +kernel) rfl rfl (⟨_, rfl⟩) rfl (L1 := [(r0, 4, 5, .int 2), (r0, 4, 6, .int to), (r0, 4, 2, .int ke), (r0, 4, 8, .int sg), (r0, 4, 9, .int il), (r0, 4, 11, .int sv), (r0, 4, 7, .int fi)]) [0, 1, 2, 3, 4, 6, 7] rfl rfl rfl dX2_isInName_36 (fun H_99 locs_99 hh_99 => ?_)
        clear hh_98
        refine lv_aload_n hx hb dX2_isInName_39 rfl (lv_at hl 0 rfl) ?_
        refine lv_iconst (v := 0) hx hb dX2_isInName_40 (by decide) ?_
        refine j7_put hx hb hown hK hh_99 hB hAp hB4 (C := RX2) (T := TX2) (N := 12) rfl (by decide) hg_r0 (i := 11) (by decide) hly_4_11 rfl hlk_70 rfl (ty := .int) (v := .int 0) (by decide +kernel) rfl rfl (⟨_, rfl, by omega, by omega⟩) rfl (L1 := [(r0, 4, 10, .int 0), (r0, 4, 5, .int 2), (r0, 4, 6, .int to), (r0, 4, 2, .int ke), (r0, 4, 8, .int sg), (r0, 4, 9, .int il), (r0, 4, 7, .int fi)]) [0, 1, 2, 3, 4, 5, 7] rfl rfl rfl dX2_isInName_41 (fun H_100 locs_100 hh_100 => ?_)
        clear hh_99
        refine lv_iconst (v := 1) hx hb dX2_isInName_44 (by decide) ?_
        rw [hQ]
        exact W.zret (v := 1) hx hb hr (jb_nz (Or.inr rfl)) (fun t ht hW => ⟨⟨1, (2, sg, il, 0, 0), rfl, ⟨(Or.inr rfl), by (try dsimp only); have hsm : (65 ≤ a1.toInt ∧ a1.toInt ≤ 90 ∧ jfSm a1.toInt = a1.toInt + 32) ∨ ((a1.toInt < 65 ∨ 90 < a1.toInt) ∧ jfSm a1.toInt = a1.toInt) := (by unfold jfSm; split <;> omega); refine ⟨?_, by omega, by omega, by omega, by omega, by omega, by omega, by omega⟩; exact jfIn_c (by omega) (by omega) (by omega) (by omega) (by omega)⟩, hh_100.rt (M1 := [(r0, 4, 5, .int 2), (r0, 4, 8, .int sg), (r0, 4, 9, .int il), (r0, 4, 10, .int 0), (r0, 4, 11, .int 0)]) [2, 5, 6, 1, 0] rfl ht⟩, by rw [ht]; try exact hh_100.1.1, fun q h9 hq => by rw [ht]; try exact hh_100.1.2.1 q h9 hq⟩) hh_100.1.2.2 dX2_isInName_45
      · skip
        have c_97' : sg.toInt = r_96.toInt := jb_ne_n (rfl) (rfl) c_97
        refine lv_iconst (v := 3) hx hb dX2_isInName_26 (by decide) ?_
        refine lv_goto (tgt := 31) hx hb dX2_isInName_27 (by decide) ?_
        refine j7_put hx hb hown hK hh hB hAp hB4 (C := RX2) (T := TX2) (N := 12) rfl (by decide) hg_r0 (i := 5) (by decide) hly_4_5 rfl hlk_15 rfl (ty := .int) (v := .int 3) (by decide +kernel) rfl rfl (⟨_, rfl⟩) rfl (L1 := [(r0, 4, 6, .int to), (r0, 4, 2, .int ke), (r0, 4, 8, .int sg), (r0, 4, 9, .int il), (r0, 4, 10, .int dg), (r0, 4, 11, .int sv), (r0, 4, 7, .int fi)]) [1, 2, 3, 4, 5, 6, 7] rfl rfl rfl dX2_isInName_31 (fun H_101 locs_101 hh_101 => ?_)
        clear hh
        refine lv_aload_n hx hb dX2_isInName_34 rfl (lv_at hl 0 rfl) ?_
        refine lv_iconst (v := 0) hx hb dX2_isInName_35 (by decide) ?_
        refine j7_put hx hb hown hK hh_101 hB hAp hB4 (C := RX2) (T := TX2) (N := 12) rfl (by decide) hg_r0 (i := 10) (by decide) hly_4_10 rfl hlk_67 rfl (ty := .int) (v := .int 0) (by decide +kernel) rfl rfl (⟨_, rfl⟩) rfl (L1 := [(r0, 4, 5, .int 3), (r0, 4, 6, .int to), (r0, 4, 2, .int ke), (r0, 4, 8, .int sg), (r0, 4, 9, .int il), (r0, 4, 11, .int sv), (r0, 4, 7, .int fi)]) [0, 1, 2, 3, 4, 6, 7] rfl rfl rfl dX2_isInName_36 (fun H_102 locs_102 hh_102 => ?_)
        clear hh_101
        refine lv_aload_n hx hb dX2_isInName_39 rfl (lv_at hl 0 rfl) ?_
        refine lv_iconst (v := 0) hx hb dX2_isInName_40 (by decide) ?_
        refine j7_put hx hb hown hK hh_102 hB hAp hB4 (C := RX2) (T := TX2) (N := 12) rfl (by decide) hg_r0 (i := 11) (by decide) hly_4_11 rfl hlk_70 rfl (ty := .int) (v := .int 0) (by decide +kernel) rfl rfl (⟨_, rfl, by omega, by omega⟩) rfl (L1 := [(r0, 4, 10, .int 0), (r0, 4, 5, .int 3), (r0, 4, 6, .int to), (r0, 4, 2, .int ke), (r0, 4, 8, .int sg), (r0, 4, 9, .int il), (r0, 4, 7, .int fi)]) [0, 1, 2, 3, 4, 5, 7] rfl rfl rfl dX2_isInName_41 (fun H_103 locs_103 hh_103 => ?_)
        clear hh_102
        refine lv_iconst (v := 1) hx hb dX2_isInName_44 (by decide) ?_
        rw [hQ]
        exact W.zret (v := 1) hx hb hr (jb_nz (Or.inr rfl)) (fun t ht hW => ⟨⟨1, (3, sg, il, 0, 0), rfl, ⟨(Or.inr rfl), by (try dsimp only); have hsm : (65 ≤ a1.toInt ∧ a1.toInt ≤ 90 ∧ jfSm a1.toInt = a1.toInt + 32) ∨ ((a1.toInt < 65 ∨ 90 < a1.toInt) ∧ jfSm a1.toInt = a1.toInt) := (by unfold jfSm; split <;> omega); refine ⟨?_, by omega, by omega, by omega, by omega, by omega, by omega, by omega⟩; exact jfIn_c (by omega) (by omega) (by omega) (by omega) (by omega)⟩, hh_103.rt (M1 := [(r0, 4, 5, .int 3), (r0, 4, 8, .int sg), (r0, 4, 9, .int il), (r0, 4, 10, .int 0), (r0, 4, 11, .int 0)]) [2, 5, 6, 1, 0] rfl ht⟩, by rw [ht]; try exact hh_103.1.1, fun q h9 hq => by rw [ht]; try exact hh_103.1.2.1 q h9 hq⟩) hh_103.1.2.2 dX2_isInName_45
set_option maxHeartbeats 4000000 in
set_option maxRecDepth 20000 in
theorem uX2_isLineBeginF (l : Launch) (dC : Nat → ClassId) (dI : Nat → Nat → Nat) (ca : Nat → ClassId) (base : Nat) (B : jF) (hB : jBok B) (hAp : jAp (dC, dI)) (hB4 : ∀ n G a H, B 4 n G a H ↔ jOb (dC, dI) 4 12 (F4 n G) a H) (G0 : jT) (H0 : Heap) (r0 : Nat) (a1 : Int32) (pl : Int32) (to : Int32) (ke : Int32) (sg : Int32) (il : Int32) (dg : Int32) (sv : Int32) (fi : Int32) : Met l yX2_isLineBegin (jw yX2_isLineBegin cX2_isLineBegin 2 (some .boolean)) ({ frames := 5, cells := 0, slots := 0, locals := 163 }) (va_Pc [.ref r0, .int a1] (fun U => U.heap = H0 ∧ jX B base G0 [] H0 ∧ jG dC dI ca base U ∧ G0 r0 = some (4, 0) ∧ jP (dC, dI) G0 H0 [(r0, 4, 5, .int pl), (r0, 4, 6, .int to), (r0, 4, 2, .int ke), (r0, 4, 8, .int sg), (r0, 4, 9, .int il), (r0, 4, 10, .int dg), (r0, 4, 11, .int sv), (r0, 4, 7, .int fi)] ∧ 0 ≤ a1.toInt ∧ a1.toInt ≤ 255)) (va_Qi (S := Int32 × Int32 × Int32 × Int32 × Int32) (fun r u => (r = 0 ∨ r = 1) ∧ (jfLb (jfV 1 pl.toInt to.toInt ke.toInt sg.toInt il.toInt dg.toInt sv.toInt fi.toInt) a1.toInt = jfV r.toInt u.1.toInt to.toInt ke.toInt u.2.1.toInt u.2.2.1.toInt u.2.2.2.1.toInt u.2.2.2.2.toInt fi.toInt ∧ (u.2.1.toInt = sg.toInt ∨ (0 ≤ u.2.1.toInt ∧ u.2.1.toInt ≤ 1)) ∧ (u.2.2.1.toInt = il.toInt ∨ (0 ≤ u.2.2.1.toInt ∧ u.2.2.1.toInt ≤ 1)) ∧ (u.2.2.2.1.toInt = dg.toInt ∨ u.2.2.2.1.toInt = 0) ∧ (u.2.2.2.2.toInt = sv.toInt ∨ u.2.2.2.2.toInt = 0) ∧ 1 ≤ u.1.toInt ∧ u.1.toInt ≤ 5 ∧ (u.1.toInt ≤ 3 ∨ r.toInt = 0 ∨ 0 ≤ to.toInt) ∧ (u.1.toInt ≠ 1 ∨ (0 ≤ u.2.1.toInt ∧ u.2.1.toInt ≤ 1)))) (fun u t => jRt (dC, dI) B base G0 EX2_isLineBeginF H0 [(r0, 4, 5, .int u.1), (r0, 4, 8, .int u.2.1), (r0, 4, 9, .int u.2.2.1), (r0, 4, 10, .int u.2.2.2.1), (r0, 4, 11, .int u.2.2.2.2)] t.heap) (jA base)) 0 0 (jA base) := by
  refine Met.ofW (cc := cX2_isLineBegin) (maxL := 2) (ret := (some .boolean)) (by decide) rfl ?_
  intro p e s m args below meth c s₁ Bd hml hv
  obtain ⟨rfl, hH0, hX, hG, hg_r0, hP0, hp0, hp1⟩ := hv
  have hK := hG.1
  have hx := Bd.exec
  have hb := Bd.bytes
  have hr := Bd.returns
  have hts := atoms_spec (ws := (jw yX2_isLineBegin cX2_isLineBegin 2 (some .boolean))) Bd.pre
  have htw : ∀ w ∈ jWl, w.before _ s = true := fun w h => hts w (List.mem_cons_of_mem _ h)
  have hown : s.vm.findClass RX2 = some m.cls := findClass_of_methodNamed Bd.named
  have hlocks := Bd.notSynchronized
  obtain ⟨Q, hQ⟩ : ∃ Q, Q = MQ below (va_Qi (S := Int32 × Int32 × Int32 × Int32 × Int32) (fun r u => (r = 0 ∨ r = 1) ∧ (jfLb (jfV 1 pl.toInt to.toInt ke.toInt sg.toInt il.toInt dg.toInt sv.toInt fi.toInt) a1.toInt = jfV r.toInt u.1.toInt to.toInt ke.toInt u.2.1.toInt u.2.2.1.toInt u.2.2.2.1.toInt u.2.2.2.2.toInt fi.toInt ∧ (u.2.1.toInt = sg.toInt ∨ (0 ≤ u.2.1.toInt ∧ u.2.1.toInt ≤ 1)) ∧ (u.2.2.1.toInt = il.toInt ∨ (0 ≤ u.2.2.1.toInt ∧ u.2.2.1.toInt ≤ 1)) ∧ (u.2.2.2.1.toInt = dg.toInt ∨ u.2.2.2.1.toInt = 0) ∧ (u.2.2.2.2.toInt = sv.toInt ∨ u.2.2.2.2.toInt = 0) ∧ 1 ≤ u.1.toInt ∧ u.1.toInt ≤ 5 ∧ (u.1.toInt ≤ 3 ∨ r.toInt = 0 ∨ 0 ≤ to.toInt) ∧ (u.1.toInt ≠ 1 ∨ (0 ≤ u.2.1.toInt ∧ u.2.1.toInt ≤ 1)))) (fun u t => jRt (dC, dI) B base G0 EX2_isLineBeginF H0 [(r0, 4, 5, .int u.1), (r0, 4, 8, .int u.2.1), (r0, 4, 9, .int u.2.2.1), (r0, 4, 10, .int u.2.2.2.1), (r0, 4, 11, .int u.2.2.2.2)] t.heap) (jA base)) ([.ref r0, .int a1] : List Value).toArray s 0 0 (jA base) := ⟨_, rfl⟩
  rw [← hQ]
  have hl := lv_entry ([.ref r0, .int a1]) (n := 2) (Nat.le_of_ble_eq_true rfl)
  rw [lg_entry_eq]
  generalize (lg_sl ([.ref r0, .int a1]) ++ List.replicate (2 - (lg_sl ([.ref r0, .int a1])).length) Slot.unset).toArray = ls at hl ⊢
  have hl : lv_has ls 2 [(0, .ref r0), (1, .int a1)] := hl
  generalize hR : (headSpec (jw yX2_isLineBegin cX2_isLineBegin 2 (some .boolean)) ({ frames := 5, cells := 0, slots := 0, locals := 163 })).room = R
  subst hH0
  have hh : jSt (dC, dI) B base G0 G0 EX2_isLineBeginF s.heap 0 0 [(r0, 4, 5, .int pl), (r0, 4, 6, .int to), (r0, 4, 2, .int ke), (r0, 4, 8, .int sg), (r0, 4, 9, .int il), (r0, 4, 10, .int dg), (r0, 4, 11, .int sv), (r0, 4, 7, .int fi)] [] [] s.heap [] := jSt.start hX hP0 jMc.nil jIs.nil
  clear hX hP0
  have hk0 : (0 : Int32).toInt = 0 := by decide
  have hk1 : (1 : Int32).toInt = 1 := by decide
  have hk5 : (5 : Int32).toInt = 5 := by decide
  have hk13 : (13 : Int32).toInt = 13 := by decide
  have hk58 : (58 : Int32).toInt = 58 := by decide
  have hly_4_5 := htw (u_lay RX2 TX2 5) (jWc_wsX20 _ (u_in_lay (by decide)))
  have hly_4_6 := htw (u_lay RX2 TX2 6) (jWc_wsX20 _ (u_in_lay (by decide)))
  have hly_4_8 := htw (u_lay RX2 TX2 8) (jWc_wsX20 _ (u_in_lay (by decide)))
  have hly_4_9 := htw (u_lay RX2 TX2 9) (jWc_wsX20 _ (u_in_lay (by decide)))
  have hlk_15 := (htw (.fieldLink RX2 15 "ProofServer$Frames" "place" "I") (jWr_3 _ (List.mem_of_getElem? (i := 15) rfl)))
  have hlk_19 := (htw (.fieldLink RX2 19 "ProofServer$Frames" "told" "I") (jWr_3 _ (List.mem_of_getElem? (i := 16) rfl)))
  have hlk_54 := (htw (.fieldLink RX2 54 "ProofServer$Frames" "signs" "I") (jWr_18 _ (List.mem_of_getElem? (i := 3) rfl)))
  have hlk_57 := (htw (.fieldLink RX2 57 "ProofServer$Frames" "isLengthName" "Z") (jWr_18 _ (List.mem_of_getElem? (i := 4) rfl)))
  have hrg_a1 := jb_rng a1
  refine lv_iload_n hx hb dX2_isLineBegin_0 rfl (lv_at hl 1 rfl) ?_
  refine lv_bipush (v := 13) hx hb dX2_isLineBegin_1 (by decide) ?_
  refine lv_icmp_ne (tgt := 24) hx hb dX2_isLineBegin_3 (by decide) (fun c_1 => ?_) (fun c_1 => ?_)
  · skip
    have c_1' : a1.toInt ≠ 13 := jb_ne (rfl) ((by decide)) c_1
    refine lv_aload_n hx hb dX2_isLineBegin_24 rfl (lv_at hl 0 rfl) ?_
    refine lv_iconst (v := 1) hx hb dX2_isLineBegin_25 (by decide) ?_
    refine j7_put hx hb hown hK hh hB hAp hB4 (C := RX2) (T := TX2) (N := 12) rfl (by decide) hg_r0 (i := 5) (by decide) hly_4_5 rfl hlk_15 rfl (ty := .int) (v := .int 1) (by decide +kernel) rfl rfl (⟨_, rfl⟩) rfl (L1 := [(r0, 4, 6, .int to), (r0, 4, 2, .int ke), (r0, 4, 8, .int sg), (r0, 4, 9, .int il), (r0, 4, 10, .int dg), (r0, 4, 11, .int sv), (r0, 4, 7, .int fi)]) [1, 2, 3, 4, 5, 6, 7] rfl rfl rfl dX2_isLineBegin_26 (fun H_2 locs_2 hh_2 => ?_)
    clear hh
    refine lv_aload_n hx hb dX2_isLineBegin_29 rfl (lv_at hl 0 rfl) ?_
    refine lv_iconst (v := 0) hx hb dX2_isLineBegin_30 (by decide) ?_
    refine j7_put hx hb hown hK hh_2 hB hAp hB4 (C := RX2) (T := TX2) (N := 12) rfl (by decide) hg_r0 (i := 8) (by decide) hly_4_8 rfl hlk_54 rfl (ty := .int) (v := .int 0) (by decide +kernel) rfl rfl (⟨_, rfl⟩) rfl (L1 := [(r0, 4, 5, .int 1), (r0, 4, 6, .int to), (r0, 4, 2, .int ke), (r0, 4, 9, .int il), (r0, 4, 10, .int dg), (r0, 4, 11, .int sv), (r0, 4, 7, .int fi)]) [0, 1, 2, 4, 5, 6, 7] rfl rfl rfl dX2_isLineBegin_31 (fun H_3 locs_3 hh_3 => ?_)
    clear hh_2
    refine lv_aload_n hx hb dX2_isLineBegin_34 rfl (lv_at hl 0 rfl) ?_
    refine lv_iconst (v := 1) hx hb dX2_isLineBegin_35 (by decide) ?_
    refine j7_put hx hb hown hK hh_3 hB hAp hB4 (C := RX2) (T := TX2) (N := 12) rfl (by decide) hg_r0 (i := 9) (by decide) hly_4_9 rfl hlk_57 rfl (ty := .boolean) (v := .int 1) (by decide +kernel) (jb_nz (Or.inr rfl)) (jb_fz (Or.inr rfl)) (⟨_, rfl, (Or.inr rfl)⟩) rfl (L1 := [(r0, 4, 8, .int 0), (r0, 4, 5, .int 1), (r0, 4, 6, .int to), (r0, 4, 2, .int ke), (r0, 4, 10, .int dg), (r0, 4, 11, .int sv), (r0, 4, 7, .int fi)]) [0, 1, 2, 3, 5, 6, 7] rfl rfl rfl dX2_isLineBegin_36 (fun H_4 locs_4 hh_4 => ?_)
    clear hh_3
    refine lv_iload_n hx hb dX2_isLineBegin_39 rfl (lv_at hl 1 rfl) ?_
    refine lv_bipush (v := 58) hx hb dX2_isLineBegin_40 (by decide) ?_
    refine lv_icmp_eq (tgt := 57) hx hb dX2_isLineBegin_42 (by decide) (fun c_5 => ?_) (fun c_5 => ?_)
    · skip
      have c_5' : a1.toInt = 58 := jb_eq (rfl) ((by decide)) c_5
      refine lv_iconst (v := 0) hx hb dX2_isLineBegin_57 (by decide) ?_
      rw [hQ]
      exact W.zret (v := 0) hx hb hr (jb_nz (Or.inl rfl)) (fun t ht hW => ⟨⟨0, (1, 0, 1, dg, sv), rfl, ⟨(Or.inl rfl), by (try dsimp only); refine ⟨?_, by omega, by omega, by omega, by omega, by omega, by omega, by omega, by omega⟩; exact jfLb_c (by omega) (by omega) (by omega) (by omega) (by omega)⟩, hh_4.rt (M1 := [(r0, 4, 5, .int 1), (r0, 4, 8, .int 0), (r0, 4, 9, .int 1), (r0, 4, 10, .int dg), (r0, 4, 11, .int sv)]) [2, 1, 0, 5, 6] rfl ht⟩, by rw [ht]; try exact hh_4.1.1, fun q h9 hq => by rw [ht]; try exact hh_4.1.2.1 q h9 hq⟩) hh_4.1.2.2 dX2_isLineBegin_58
    · skip
      have c_5' : a1.toInt ≠ 58 := jb_eq_n (rfl) ((by decide)) c_5
      refine lv_aload_n hx hb dX2_isLineBegin_45 rfl (lv_at hl 0 rfl) ?_
      refine lv_iload_n hx hb dX2_isLineBegin_46 rfl (lv_at hl 1 rfl) ?_
      refine va_calli (A0 := jA base) (H0 := s.heap) (va_runV (As := [.int a1]) (rest := []) ⟨hx, hb, hml, hown, hts⟩ (uX2_isInNameF l dC dI ca base B hB hAp hB4 G0 H_4 r0 a1 1 to ke 0 1 dg sv fi) (cwV 1 hts (jgV (jWr_18 _ (List.mem_of_getElem? (i := 5) rfl)) (jWr_18 _ (List.mem_of_getElem? (i := 6) rfl)) (jWr_18 _ (List.mem_of_getElem? (i := 7) rfl)) (jWr_1 _ (List.mem_of_getElem? (i := 18) rfl)) (jWr_18 _ (List.mem_of_getElem? (i := 8) rfl))) rfl rfl rfl (by decide +kernel) ⟨by rw [← hR]; exact Nat.le_of_ble_eq_true rfl, by rw [← hR]; exact Nat.le_of_ble_eq_true rfl⟩) ⟨fun a U g mk q => by obtain ⟨q0, q1, q2, qK, q10, q11, q12⟩ := q; exact ⟨q0, q1, q2, jG.calling g mk a qK, q10, q11, q12⟩, hh_4.recv (C := RX2) (T := TX2) (N := 12) hB4 rfl (by decide) hg_r0 hK, fun U hU hW => ⟨rfl, hU, hh_4.2.1, hG.step hW hU hh_4.1, hg_r0, (hh_4.2.2.1.sub (L1 := [(r0, 4, 5, .int 1), (r0, 4, 6, .int to), (r0, 4, 2, .int ke), (r0, 4, 8, .int 0), (r0, 4, 9, .int 1), (r0, 4, 10, .int dg), (r0, 4, 11, .int sv), (r0, 4, 7, .int fi)]) [2, 3, 4, 1, 0, 5, 6, 7] rfl), by first | omega | (refine ⟨?_, ?_, ?_, ?_, ?_, ?_⟩ <;> (first | omega | rfl | assumption | decide | exact Or.inl rfl | exact Or.inr rfl | (simp only; omega)))⟩⟩ rfl rfl hl.1 rfl (lv_room (Nat.le_of_ble_eq_true rfl)) dX2_isLineBegin_47 ⟨Nat.zero_le _, Nat.zero_le _⟩) hh_4.1 (fun q _ h => h) (fun q h => h) (fun r_7 u_6 t_6 H_6 locs_6 ht_6 hvm_6 hr_7 hb_6 hz_6 hk_6 hS_6 => ?_)
      obtain ⟨qp_6, qg_6, ql_6, qd_6, qv_6⟩ := u_6
      rw [ht_6] at hb_6
      obtain ⟨hb_61, hb_62, hb_63, hb_64, hb_65⟩ := hb_6
      have hh_6 : jSt (dC, dI) B base G0 G0 EX2_isLineBeginF s.heap 0 0 [(r0, 4, 5, .int qp_6), (r0, 4, 8, .int qg_6), (r0, 4, 9, .int ql_6), (r0, 4, 10, .int qd_6), (r0, 4, 11, .int qv_6), (r0, 4, 6, .int to), (r0, 4, 2, .int ke), (r0, 4, 7, .int fi)] [] [] H_6 locs_6 := ((hh_4.call hb_61 hb_62 hb_63 hb_64 hS_6 rfl (L1 := [(r0, 4, 6, .int to), (r0, 4, 2, .int ke), (r0, 4, 7, .int fi)]) [3, 4, 7] rfl rfl (M1 := []) [] rfl rfl (I1 := []) [] rfl rfl).more hb_65)
      clear hh_4 ht_6 hvm_6 hz_6 hk_6 hS_6 hb_61 hb_62 hb_63 hb_64 hb_65
      try simp only at hr_7
      obtain ⟨hr_7b, hr_7p⟩ := hr_7
      obtain ⟨hr_7p_0, hr_7p_1, hr_7p_2, hr_7p_3, hr_7p_4, hr_7p_5, hr_7p_6, hr_7p_7⟩ := hr_7p
      have hr_7' := jb_01 hr_7b
      refine lv_if_eq (tgt := 57) hx hb dX2_isLineBegin_50 (by decide) (fun c_8 => ?_) (fun c_8 => ?_)
      · skip
        have c_8' : r_7.toInt = 0 := jb_eq (rfl) ((by decide)) c_8
        first | (have hr_7p_5q := hr_7p_5.resolve_left (by omega); clear hr_7p_5) | (have hr_7p_5q := hr_7p_5.resolve_right (by omega); clear hr_7p_5) | skip
        first | (have hr_7p_6q := hr_7p_6.resolve_left (by omega); clear hr_7p_6) | (have hr_7p_6q := hr_7p_6.resolve_right (by omega); clear hr_7p_6) | skip
        first | (have hr_7p_7q := hr_7p_7.resolve_left (by omega); clear hr_7p_7) | (have hr_7p_7q := hr_7p_7.resolve_right (by omega); clear hr_7p_7) | skip
        refine lv_iconst (v := 0) hx hb dX2_isLineBegin_57 (by decide) ?_
        rw [hQ]
        exact W.zret (v := 0) hx hb hr (jb_nz (Or.inl rfl)) (fun t ht hW => ⟨⟨0, (qp_6, qg_6, ql_6, qd_6, qv_6), rfl, ⟨(Or.inl rfl), by (try dsimp only); refine ⟨?_, by omega, by omega, by omega, by omega, by omega, by omega, by omega, by omega⟩; exact jfLb_n (by omega) (by omega) (by omega) (by omega) (by omega) (jfrx hr_7p_0 (by omega))⟩, hh_6.rt (M1 := [(r0, 4, 5, .int qp_6), (r0, 4, 8, .int qg_6), (r0, 4, 9, .int ql_6), (r0, 4, 10, .int qd_6), (r0, 4, 11, .int qv_6)]) [0, 1, 2, 3, 4] rfl ht⟩, by rw [ht]; try exact hh_6.1.1, fun q h9 hq => by rw [ht]; try exact hh_6.1.2.1 q h9 hq⟩) hh_6.1.2.2 dX2_isLineBegin_58
      · skip
        have c_8' : r_7.toInt ≠ 0 := jb_eq_n (rfl) ((by decide)) c_8
        first | (have hr_7p_5q := hr_7p_5.resolve_left (by omega); clear hr_7p_5) | (have hr_7p_5q := hr_7p_5.resolve_right (by omega); clear hr_7p_5) | skip
        first | (have hr_7p_6q := hr_7p_6.resolve_left (by omega); clear hr_7p_6) | (have hr_7p_6q := hr_7p_6.resolve_right (by omega); clear hr_7p_6) | skip
        first | (have hr_7p_7q := hr_7p_7.resolve_left (by omega); clear hr_7p_7) | (have hr_7p_7q := hr_7p_7.resolve_right (by omega); clear hr_7p_7) | skip
        refine lv_iconst (v := 1) hx hb dX2_isLineBegin_53 (by decide) ?_
        refine lv_goto (tgt := 58) hx hb dX2_isLineBegin_54 (by decide) ?_
        rw [hQ]
        exact W.zret (v := 1) hx hb hr (jb_nz (Or.inr rfl)) (fun t ht hW => ⟨⟨1, (qp_6, qg_6, ql_6, qd_6, qv_6), rfl, ⟨(Or.inr rfl), by (try dsimp only); refine ⟨?_, by omega, by omega, by omega, by omega, by omega, by omega, by omega, by omega⟩; exact jfLb_n (by omega) (by omega) (by omega) (by omega) (by omega) (jfrx hr_7p_0 (by omega))⟩, hh_6.rt (M1 := [(r0, 4, 5, .int qp_6), (r0, 4, 8, .int qg_6), (r0, 4, 9, .int ql_6), (r0, 4, 10, .int qd_6), (r0, 4, 11, .int qv_6)]) [0, 1, 2, 3, 4] rfl ht⟩, by rw [ht]; try exact hh_6.1.1, fun q h9 hq => by rw [ht]; try exact hh_6.1.2.1 q h9 hq⟩) hh_6.1.2.2 dX2_isLineBegin_58
  · skip
    have c_1' : a1.toInt = 13 := jb_ne_n (rfl) ((by decide)) c_1
    refine lv_aload_n hx hb dX2_isLineBegin_6 rfl (lv_at hl 0 rfl) ?_
    refine lv_iconst (v := 5) hx hb dX2_isLineBegin_7 (by decide) ?_
    refine j7_put hx hb hown hK hh hB hAp hB4 (C := RX2) (T := TX2) (N := 12) rfl (by decide) hg_r0 (i := 5) (by decide) hly_4_5 rfl hlk_15 rfl (ty := .int) (v := .int 5) (by decide +kernel) rfl rfl (⟨_, rfl⟩) rfl (L1 := [(r0, 4, 6, .int to), (r0, 4, 2, .int ke), (r0, 4, 8, .int sg), (r0, 4, 9, .int il), (r0, 4, 10, .int dg), (r0, 4, 11, .int sv), (r0, 4, 7, .int fi)]) [1, 2, 3, 4, 5, 6, 7] rfl rfl rfl dX2_isLineBegin_8 (fun H_9 locs_9 hh_9 => ?_)
    clear hh
    refine lv_aload_n hx hb dX2_isLineBegin_11 rfl (lv_at hl 0 rfl) ?_
    refine j7_read hx hb hown hK (C := RX2) (T := TX2) (N := 12) rfl hly_4_6 hlk_19 (hh_9.at 1 rfl) dX2_isLineBegin_12 ?_
    refine lv_if_lt (tgt := 22) hx hb dX2_isLineBegin_15 (by decide) (fun c_10 => ?_) (fun c_10 => ?_)
    · skip
      have c_10' : to.toInt < 0 := jb_lt (rfl) ((by decide)) c_10
      refine lv_iconst (v := 0) hx hb dX2_isLineBegin_22 (by decide) ?_
      rw [hQ]
      exact W.zret (v := 0) hx hb hr (jb_nz (Or.inl rfl)) (fun t ht hW => ⟨⟨0, (5, sg, il, dg, sv), rfl, ⟨(Or.inl rfl), by (try dsimp only); refine ⟨?_, by omega, by omega, by omega, by omega, by omega, by omega, by omega, by omega⟩; exact jfLb_r (by omega) (by omega) (by omega)⟩, hh_9.rt (M1 := [(r0, 4, 5, .int 5), (r0, 4, 8, .int sg), (r0, 4, 9, .int il), (r0, 4, 10, .int dg), (r0, 4, 11, .int sv)]) [0, 3, 4, 5, 6] rfl ht⟩, by rw [ht]; try exact hh_9.1.1, fun q h9 hq => by rw [ht]; try exact hh_9.1.2.1 q h9 hq⟩) hh_9.1.2.2 dX2_isLineBegin_23
    · skip
      have c_10' : to.toInt ≥ 0 := jb_lt_n (rfl) ((by decide)) c_10
      refine lv_iconst (v := 1) hx hb dX2_isLineBegin_18 (by decide) ?_
      refine lv_goto (tgt := 23) hx hb dX2_isLineBegin_19 (by decide) ?_
      rw [hQ]
      exact W.zret (v := 1) hx hb hr (jb_nz (Or.inr rfl)) (fun t ht hW => ⟨⟨1, (5, sg, il, dg, sv), rfl, ⟨(Or.inr rfl), by (try dsimp only); refine ⟨?_, by omega, by omega, by omega, by omega, by omega, by omega, by omega, by omega⟩; exact jfLb_r (by omega) (by omega) (by omega)⟩, hh_9.rt (M1 := [(r0, 4, 5, .int 5), (r0, 4, 8, .int sg), (r0, 4, 9, .int il), (r0, 4, 10, .int dg), (r0, 4, 11, .int sv)]) [0, 3, 4, 5, 6] rfl ht⟩, by rw [ht]; try exact hh_9.1.1, fun q h9 hq => by rw [ht]; try exact hh_9.1.2.1 q h9 hq⟩) hh_9.1.2.2 dX2_isLineBegin_23
set_option maxHeartbeats 4000000 in
set_option maxRecDepth 20000 in
theorem uX2_isHeaderF (l : Launch) (dC : Nat → ClassId) (dI : Nat → Nat → Nat) (ca : Nat → ClassId) (base : Nat) (B : jF) (hB : jBok B) (hAp : jAp (dC, dI)) (hB4 : ∀ n G a H, B 4 n G a H ↔ jOb (dC, dI) 4 12 (F4 n G) a H) (G0 : jT) (H0 : Heap) (r0 : Nat) (a1 : Int32) (pl : Int32) (to : Int32) (ke : Int32) (sg : Int32) (il : Int32) (dg : Int32) (sv : Int32) (fi : Int32) : Met l yX2_isHeader (jw yX2_isHeader cX2_isHeader 2 (some .boolean)) ({ frames := 6, cells := 0, slots := 0, locals := 184 }) (va_Pc [.ref r0, .int a1] (fun U => U.heap = H0 ∧ jX B base G0 [] H0 ∧ jG dC dI ca base U ∧ G0 r0 = some (4, 0) ∧ jP (dC, dI) G0 H0 [(r0, 4, 5, .int pl), (r0, 4, 6, .int to), (r0, 4, 2, .int ke), (r0, 4, 8, .int sg), (r0, 4, 9, .int il), (r0, 4, 10, .int dg), (r0, 4, 11, .int sv), (r0, 4, 7, .int fi)] ∧ 0 ≤ pl.toInt ∧ pl.toInt ≤ 5 ∧ (pl.toInt ≤ 4 ∨ 0 ≤ to.toInt) ∧ -1 ≤ to.toInt ∧ to.toInt ≤ 3000 ∧ 0 ≤ sv.toInt ∧ sv.toInt ≤ 3000 ∧ 0 ≤ dg.toInt ∧ dg.toInt ≤ 4 ∧ 0 ≤ sg.toInt ∧ sg.toInt ≤ 300 ∧ 0 ≤ il.toInt ∧ il.toInt ≤ 1 ∧ 0 ≤ a1.toInt ∧ a1.toInt ≤ 255)) (va_Qi (S := Int32 × Int32 × Int32 × Int32 × Int32 × Int32) (fun r u => (r = 0 ∨ r = 1) ∧ (jfHd (jfV 1 pl.toInt to.toInt ke.toInt sg.toInt il.toInt dg.toInt sv.toInt fi.toInt) a1.toInt = jfV r.toInt u.1.toInt u.2.1.toInt ke.toInt u.2.2.1.toInt u.2.2.2.1.toInt u.2.2.2.2.1.toInt u.2.2.2.2.2.toInt fi.toInt ∧ 0 ≤ u.2.2.2.2.2.toInt ∧ u.2.2.2.2.2.toInt ≤ 3000 + 100000 * (1 - r.toInt) ∧ 0 ≤ u.2.2.2.2.1.toInt ∧ u.2.2.2.2.1.toInt ≤ 4 + (1 - r.toInt) ∧ 0 ≤ u.2.2.1.toInt ∧ u.2.2.1.toInt ≤ sg.toInt + 1 ∧ 0 ≤ u.2.2.2.1.toInt ∧ u.2.2.2.1.toInt ≤ 1 ∧ 0 ≤ u.1.toInt ∧ u.1.toInt ≤ 6 ∧ (u.1.toInt ≤ 5 ∨ pl.toInt = 5) ∧ (u.1.toInt ≤ 4 ∨ r.toInt = 0 ∨ 0 ≤ u.2.1.toInt) ∧ -1 ≤ u.2.1.toInt ∧ u.2.1.toInt ≤ 3000 ∧ (u.1.toInt ≠ 1 ∨ pl.toInt = 1 ∨ u.2.2.1.toInt ≤ 1) ∧ (u.2.2.1.toInt ≤ sg.toInt ∨ pl.toInt = 1 ∨ u.2.2.1.toInt ≤ 1))) (fun u t => jRt (dC, dI) B base G0 EX2_isHeaderF H0 [(r0, 4, 5, .int u.1), (r0, 4, 6, .int u.2.1), (r0, 4, 8, .int u.2.2.1), (r0, 4, 9, .int u.2.2.2.1), (r0, 4, 10, .int u.2.2.2.2.1), (r0, 4, 11, .int u.2.2.2.2.2)] t.heap) (jA base)) 0 0 (jA base) := by
  refine Met.ofW (cc := cX2_isHeader) (maxL := 2) (ret := (some .boolean)) (by decide) rfl ?_
  intro p e s m args below meth c s₁ Bd hml hv
  obtain ⟨rfl, hH0, hX, hG, hg_r0, hP0, hp0, hp1, hp2, hp3, hp4, hp5, hp6, hp7, hp8, hp9, hp10, hp11, hp12, hp13, hp14⟩ := hv
  have hK := hG.1
  have hx := Bd.exec
  have hb := Bd.bytes
  have hr := Bd.returns
  have hts := atoms_spec (ws := (jw yX2_isHeader cX2_isHeader 2 (some .boolean))) Bd.pre
  have htw : ∀ w ∈ jWl, w.before _ s = true := fun w h => hts w (List.mem_cons_of_mem _ h)
  have hown : s.vm.findClass RX2 = some m.cls := findClass_of_methodNamed Bd.named
  have hlocks := Bd.notSynchronized
  obtain ⟨Q, hQ⟩ : ∃ Q, Q = MQ below (va_Qi (S := Int32 × Int32 × Int32 × Int32 × Int32 × Int32) (fun r u => (r = 0 ∨ r = 1) ∧ (jfHd (jfV 1 pl.toInt to.toInt ke.toInt sg.toInt il.toInt dg.toInt sv.toInt fi.toInt) a1.toInt = jfV r.toInt u.1.toInt u.2.1.toInt ke.toInt u.2.2.1.toInt u.2.2.2.1.toInt u.2.2.2.2.1.toInt u.2.2.2.2.2.toInt fi.toInt ∧ 0 ≤ u.2.2.2.2.2.toInt ∧ u.2.2.2.2.2.toInt ≤ 3000 + 100000 * (1 - r.toInt) ∧ 0 ≤ u.2.2.2.2.1.toInt ∧ u.2.2.2.2.1.toInt ≤ 4 + (1 - r.toInt) ∧ 0 ≤ u.2.2.1.toInt ∧ u.2.2.1.toInt ≤ sg.toInt + 1 ∧ 0 ≤ u.2.2.2.1.toInt ∧ u.2.2.2.1.toInt ≤ 1 ∧ 0 ≤ u.1.toInt ∧ u.1.toInt ≤ 6 ∧ (u.1.toInt ≤ 5 ∨ pl.toInt = 5) ∧ (u.1.toInt ≤ 4 ∨ r.toInt = 0 ∨ 0 ≤ u.2.1.toInt) ∧ -1 ≤ u.2.1.toInt ∧ u.2.1.toInt ≤ 3000 ∧ (u.1.toInt ≠ 1 ∨ pl.toInt = 1 ∨ u.2.2.1.toInt ≤ 1) ∧ (u.2.2.1.toInt ≤ sg.toInt ∨ pl.toInt = 1 ∨ u.2.2.1.toInt ≤ 1))) (fun u t => jRt (dC, dI) B base G0 EX2_isHeaderF H0 [(r0, 4, 5, .int u.1), (r0, 4, 6, .int u.2.1), (r0, 4, 8, .int u.2.2.1), (r0, 4, 9, .int u.2.2.2.1), (r0, 4, 10, .int u.2.2.2.2.1), (r0, 4, 11, .int u.2.2.2.2.2)] t.heap) (jA base)) ([.ref r0, .int a1] : List Value).toArray s 0 0 (jA base) := ⟨_, rfl⟩
  rw [← hQ]
  have hl := lv_entry ([.ref r0, .int a1]) (n := 2) (Nat.le_of_ble_eq_true rfl)
  rw [lg_entry_eq]
  generalize (lg_sl ([.ref r0, .int a1]) ++ List.replicate (2 - (lg_sl ([.ref r0, .int a1])).length) Slot.unset).toArray = ls at hl ⊢
  have hl : lv_has ls 2 [(0, .ref r0), (1, .int a1)] := hl
  generalize hR : (headSpec (jw yX2_isHeader cX2_isHeader 2 (some .boolean)) ({ frames := 6, cells := 0, slots := 0, locals := 184 })).room = R
  subst hH0
  have hh : jSt (dC, dI) B base G0 G0 EX2_isHeaderF s.heap 0 0 [(r0, 4, 5, .int pl), (r0, 4, 6, .int to), (r0, 4, 2, .int ke), (r0, 4, 8, .int sg), (r0, 4, 9, .int il), (r0, 4, 10, .int dg), (r0, 4, 11, .int sv), (r0, 4, 7, .int fi)] [] [] s.heap [] := jSt.start hX hP0 jMc.nil jIs.nil
  clear hX hP0
  have hk0 : (0 : Int32).toInt = 0 := by decide
  have hk1 : (1 : Int32).toInt = 1 := by decide
  have hk6 : (6 : Int32).toInt = 6 := by decide
  have hk10 : (10 : Int32).toInt = 10 := by decide
  have hly_4_5 := htw (u_lay RX2 TX2 5) (jWc_wsX20 _ (u_in_lay (by decide)))
  have hlk_15 := (htw (.fieldLink RX2 15 "ProofServer$Frames" "place" "I") (jWr_3 _ (List.mem_of_getElem? (i := 15) rfl)))
  have hrg_a1 := jb_rng a1
  refine lv_aload_n hx hb dX2_isHeader_0 rfl (lv_at hl 0 rfl) ?_
  refine j7_read hx hb hown hK (C := RX2) (T := TX2) (N := 12) rfl hly_4_5 hlk_15 (hh.at 0 rfl) dX2_isHeader_1 ?_
  rcases (by omega : (pl.toInt < 0 ∨ 4 < pl.toInt) ∨ pl.toInt = 0 ∨ pl.toInt = 1 ∨ pl.toInt = 2 ∨ pl.toInt = 3 ∨ pl.toInt = 4) with c_1 | c_1 | c_1 | c_1 | c_1 | c_1
  · refine lv_tableOut (tgt := 81) hx hb dX2_isHeader_4 c_1 (by decide) ?_
    refine lv_aload_n hx hb dX2_isHeader_81 rfl (lv_at hl 0 rfl) ?_
    refine lv_bipush (v := 6) hx hb dX2_isHeader_82 (by decide) ?_
    refine j7_put hx hb hown hK hh hB hAp hB4 (C := RX2) (T := TX2) (N := 12) rfl (by decide) hg_r0 (i := 5) (by decide) hly_4_5 rfl hlk_15 rfl (ty := .int) (v := .int 6) (by decide +kernel) rfl rfl (⟨_, rfl⟩) rfl (L1 := [(r0, 4, 6, .int to), (r0, 4, 2, .int ke), (r0, 4, 8, .int sg), (r0, 4, 9, .int il), (r0, 4, 10, .int dg), (r0, 4, 11, .int sv), (r0, 4, 7, .int fi)]) [1, 2, 3, 4, 5, 6, 7] rfl rfl rfl dX2_isHeader_84 (fun H_2 locs_2 hh_2 => ?_)
    clear hh
    refine lv_iload_n hx hb dX2_isHeader_87 rfl (lv_at hl 1 rfl) ?_
    refine lv_bipush (v := 10) hx hb dX2_isHeader_88 (by decide) ?_
    refine lv_icmp_ne (tgt := 97) hx hb dX2_isHeader_90 (by decide) (fun c_3 => ?_) (fun c_3 => ?_)
    · skip
      have c_3' : a1.toInt ≠ 10 := jb_ne (rfl) ((by decide)) c_3
      refine lv_iconst (v := 0) hx hb dX2_isHeader_97 (by decide) ?_
      rw [hQ]
      exact W.zret (v := 0) hx hb hr (jb_nz (Or.inl rfl)) (fun t ht hW => ⟨⟨0, (6, to, sg, il, dg, sv), rfl, ⟨(Or.inl rfl), by (try dsimp only); refine ⟨?_, by omega, by omega, by omega, by omega, by omega, by omega, by omega, by omega, by omega, by omega, by omega, by omega, by omega, by omega, by omega, by omega⟩; exact jfHd_4 (by omega) (by omega)⟩, hh_2.rt (M1 := [(r0, 4, 5, .int 6), (r0, 4, 6, .int to), (r0, 4, 8, .int sg), (r0, 4, 9, .int il), (r0, 4, 10, .int dg), (r0, 4, 11, .int sv)]) [0, 1, 3, 4, 5, 6] rfl ht⟩, by rw [ht]; try exact hh_2.1.1, fun q h9 hq => by rw [ht]; try exact hh_2.1.2.1 q h9 hq⟩) hh_2.1.2.2 dX2_isHeader_98
    · skip
      have c_3' : a1.toInt = 10 := jb_ne_n (rfl) ((by decide)) c_3
      refine lv_iconst (v := 1) hx hb dX2_isHeader_93 (by decide) ?_
      refine lv_goto (tgt := 98) hx hb dX2_isHeader_94 (by decide) ?_
      rw [hQ]
      exact W.zret (v := 1) hx hb hr (jb_nz (Or.inr rfl)) (fun t ht hW => ⟨⟨1, (6, to, sg, il, dg, sv), rfl, ⟨(Or.inr rfl), by (try dsimp only); refine ⟨?_, by omega, by omega, by omega, by omega, by omega, by omega, by omega, by omega, by omega, by omega, by omega, by omega, by omega, by omega, by omega, by omega⟩; exact jfHd_4 (by omega) (by omega)⟩, hh_2.rt (M1 := [(r0, 4, 5, .int 6), (r0, 4, 6, .int to), (r0, 4, 8, .int sg), (r0, 4, 9, .int il), (r0, 4, 10, .int dg), (r0, 4, 11, .int sv)]) [0, 1, 3, 4, 5, 6] rfl ht⟩, by rw [ht]; try exact hh_2.1.1, fun q h9 hq => by rw [ht]; try exact hh_2.1.2.1 q h9 hq⟩) hh_2.1.2.2 dX2_isHeader_98
  · refine lv_tableIn (off := 36) (tgt := 40) hx hb dX2_isHeader_4 (by omega) (by omega) (by rw [c_1]; rfl) (by decide) ?_
    refine lv_aload_n hx hb dX2_isHeader_40 rfl (lv_at hl 0 rfl) ?_
    refine lv_iload_n hx hb dX2_isHeader_41 rfl (lv_at hl 1 rfl) ?_
    refine va_calli (A0 := jA base) (H0 := s.heap) (va_runV (As := [.int a1]) (rest := []) ⟨hx, hb, hml, hown, hts⟩ (uX2_isLineBeginF l dC dI ca base B hB hAp hB4 G0 s.heap r0 a1 pl to ke sg il dg sv fi) (cwV 1 hts (jgV (jWr_17 _ (List.mem_of_getElem? (i := 23) rfl)) (jWr_18 _ (List.mem_of_getElem? (i := 0) rfl)) (jWr_18 _ (List.mem_of_getElem? (i := 1) rfl)) (jWr_1 _ (List.mem_of_getElem? (i := 18) rfl)) (jWr_18 _ (List.mem_of_getElem? (i := 2) rfl))) rfl rfl rfl (by decide +kernel) ⟨by rw [← hR]; exact Nat.le_of_ble_eq_true rfl, by rw [← hR]; exact Nat.le_of_ble_eq_true rfl⟩) ⟨fun a U g mk q => by obtain ⟨q0, q1, q2, qK, q10, q11, q12⟩ := q; exact ⟨q0, q1, q2, jG.calling g mk a qK, q10, q11, q12⟩, hh.recv (C := RX2) (T := TX2) (N := 12) hB4 rfl (by decide) hg_r0 hK, fun U hU hW => ⟨rfl, hU, hh.2.1, hG.step hW hU hh.1, hg_r0, (hh.2.2.1.sub (L1 := [(r0, 4, 5, .int pl), (r0, 4, 6, .int to), (r0, 4, 2, .int ke), (r0, 4, 8, .int sg), (r0, 4, 9, .int il), (r0, 4, 10, .int dg), (r0, 4, 11, .int sv), (r0, 4, 7, .int fi)]) [0, 1, 2, 3, 4, 5, 6, 7] rfl), by first | omega | (refine ⟨?_, ?_⟩ <;> (first | omega | rfl | assumption | decide | exact Or.inl rfl | exact Or.inr rfl | (simp only; omega)))⟩⟩ rfl rfl hl.1 rfl (lv_room (Nat.le_of_ble_eq_true rfl)) dX2_isHeader_42 ⟨Nat.zero_le _, Nat.zero_le _⟩) hh.1 (fun q _ h => h) (fun q h => h) (fun r_5 u_4 t_4 H_4 locs_4 ht_4 hvm_4 hr_5 hb_4 hz_4 hk_4 hS_4 => ?_)
    obtain ⟨qp_4, qg_4, ql_4, qd_4, qv_4⟩ := u_4
    rw [ht_4] at hb_4
    obtain ⟨hb_41, hb_42, hb_43, hb_44, hb_45⟩ := hb_4
    have hh_4 : jSt (dC, dI) B base G0 G0 EX2_isHeaderF s.heap 0 0 [(r0, 4, 5, .int qp_4), (r0, 4, 8, .int qg_4), (r0, 4, 9, .int ql_4), (r0, 4, 10, .int qd_4), (r0, 4, 11, .int qv_4), (r0, 4, 6, .int to), (r0, 4, 2, .int ke), (r0, 4, 7, .int fi)] [] [] H_4 locs_4 := ((hh.call hb_41 hb_42 hb_43 hb_44 hS_4 rfl (L1 := [(r0, 4, 6, .int to), (r0, 4, 2, .int ke), (r0, 4, 7, .int fi)]) [1, 2, 7] rfl rfl (M1 := []) [] rfl rfl (I1 := []) [] rfl rfl).more hb_45)
    clear hh ht_4 hvm_4 hz_4 hk_4 hS_4 hb_41 hb_42 hb_43 hb_44 hb_45
    try simp only at hr_5
    obtain ⟨hr_5b, hr_5p⟩ := hr_5
    obtain ⟨hr_5p_0, hr_5p_1, hr_5p_2, hr_5p_3, hr_5p_4, hr_5p_5, hr_5p_6, hr_5p_7, hr_5p_8⟩ := hr_5p
    have hr_5' := jb_01 hr_5b
    rw [hQ]
    exact W.zret (v := r_5) hx hb hr (jb_nz (hr_5b)) (fun t ht hW => ⟨⟨r_5, (qp_4, to, qg_4, ql_4, qd_4, qv_4), rfl, ⟨(hr_5b), by (try dsimp only); refine ⟨?_, by omega, by omega, by omega, by omega, by omega, by omega, by omega, by omega, by omega, by omega, by omega, by omega, by omega, by omega, by omega, by omega⟩; exact jfHd_0 (by omega) hr_5p_0⟩, hh_4.rt (M1 := [(r0, 4, 5, .int qp_4), (r0, 4, 6, .int to), (r0, 4, 8, .int qg_4), (r0, 4, 9, .int ql_4), (r0, 4, 10, .int qd_4), (r0, 4, 11, .int qv_4)]) [0, 5, 1, 2, 3, 4] rfl ht⟩, by rw [ht]; try exact hh_4.1.1, fun q h9 hq => by rw [ht]; try exact hh_4.1.2.1 q h9 hq⟩) hh_4.1.2.2 dX2_isHeader_45
  · refine lv_tableIn (off := 42) (tgt := 46) hx hb dX2_isHeader_4 (by omega) (by omega) (by rw [c_1]; rfl) (by decide) ?_
    refine lv_aload_n hx hb dX2_isHeader_46 rfl (lv_at hl 0 rfl) ?_
    refine lv_iload_n hx hb dX2_isHeader_47 rfl (lv_at hl 1 rfl) ?_
    refine va_calli (A0 := jA base) (H0 := s.heap) (va_runV (As := [.int a1]) (rest := []) ⟨hx, hb, hml, hown, hts⟩ (uX2_isInNameF l dC dI ca base B hB hAp hB4 G0 s.heap r0 a1 pl to ke sg il dg sv fi) (cwV 1 hts (jgV (jWr_18 _ (List.mem_of_getElem? (i := 5) rfl)) (jWr_18 _ (List.mem_of_getElem? (i := 6) rfl)) (jWr_18 _ (List.mem_of_getElem? (i := 7) rfl)) (jWr_1 _ (List.mem_of_getElem? (i := 18) rfl)) (jWr_18 _ (List.mem_of_getElem? (i := 8) rfl))) rfl rfl rfl (by decide +kernel) ⟨by rw [← hR]; exact Nat.le_of_ble_eq_true rfl, by rw [← hR]; exact Nat.le_of_ble_eq_true rfl⟩) ⟨fun a U g mk q => by obtain ⟨q0, q1, q2, qK, q10, q11, q12⟩ := q; exact ⟨q0, q1, q2, jG.calling g mk a qK, q10, q11, q12⟩, hh.recv (C := RX2) (T := TX2) (N := 12) hB4 rfl (by decide) hg_r0 hK, fun U hU hW => ⟨rfl, hU, hh.2.1, hG.step hW hU hh.1, hg_r0, (hh.2.2.1.sub (L1 := [(r0, 4, 5, .int pl), (r0, 4, 6, .int to), (r0, 4, 2, .int ke), (r0, 4, 8, .int sg), (r0, 4, 9, .int il), (r0, 4, 10, .int dg), (r0, 4, 11, .int sv), (r0, 4, 7, .int fi)]) [0, 1, 2, 3, 4, 5, 6, 7] rfl), by first | omega | (refine ⟨?_, ?_, ?_, ?_, ?_, ?_⟩ <;> (first | omega | rfl | assumption | decide | exact Or.inl rfl | exact Or.inr rfl | (simp only; omega)))⟩⟩ rfl rfl hl.1 rfl (lv_room (Nat.le_of_ble_eq_true rfl)) dX2_isHeader_48 ⟨Nat.zero_le _, Nat.zero_le _⟩) hh.1 (fun q _ h => h) (fun q h => h) (fun r_7 u_6 t_6 H_6 locs_6 ht_6 hvm_6 hr_7 hb_6 hz_6 hk_6 hS_6 => ?_)
    obtain ⟨qp_6, qg_6, ql_6, qd_6, qv_6⟩ := u_6
    rw [ht_6] at hb_6
    obtain ⟨hb_61, hb_62, hb_63, hb_64, hb_65⟩ := hb_6
    have hh_6 : jSt (dC, dI) B base G0 G0 EX2_isHeaderF s.heap 0 0 [(r0, 4, 5, .int qp_6), (r0, 4, 8, .int qg_6), (r0, 4, 9, .int ql_6), (r0, 4, 10, .int qd_6), (r0, 4, 11, .int qv_6), (r0, 4, 6, .int to), (r0, 4, 2, .int ke), (r0, 4, 7, .int fi)] [] [] H_6 locs_6 := ((hh.call hb_61 hb_62 hb_63 hb_64 hS_6 rfl (L1 := [(r0, 4, 6, .int to), (r0, 4, 2, .int ke), (r0, 4, 7, .int fi)]) [1, 2, 7] rfl rfl (M1 := []) [] rfl rfl (I1 := []) [] rfl rfl).more hb_65)
    clear hh ht_6 hvm_6 hz_6 hk_6 hS_6 hb_61 hb_62 hb_63 hb_64 hb_65
    try simp only at hr_7
    obtain ⟨hr_7b, hr_7p⟩ := hr_7
    obtain ⟨hr_7p_0, hr_7p_1, hr_7p_2, hr_7p_3, hr_7p_4, hr_7p_5, hr_7p_6, hr_7p_7⟩ := hr_7p
    have hr_7' := jb_01 hr_7b
    rw [hQ]
    exact W.zret (v := r_7) hx hb hr (jb_nz (hr_7b)) (fun t ht hW => ⟨⟨r_7, (qp_6, to, qg_6, ql_6, qd_6, qv_6), rfl, ⟨(hr_7b), by (try dsimp only); refine ⟨?_, by omega, by omega, by omega, by omega, by omega, by omega, by omega, by omega, by omega, by omega, by omega, by omega, by omega, by omega, by omega, by omega⟩; exact jfHd_1 (by omega) hr_7p_0⟩, hh_6.rt (M1 := [(r0, 4, 5, .int qp_6), (r0, 4, 6, .int to), (r0, 4, 8, .int qg_6), (r0, 4, 9, .int ql_6), (r0, 4, 10, .int qd_6), (r0, 4, 11, .int qv_6)]) [0, 5, 1, 2, 3, 4] rfl ht⟩, by rw [ht]; try exact hh_6.1.1, fun q h9 hq => by rw [ht]; try exact hh_6.1.2.1 q h9 hq⟩) hh_6.1.2.2 dX2_isHeader_51
  · refine lv_tableIn (off := 48) (tgt := 52) hx hb dX2_isHeader_4 (by omega) (by omega) (by rw [c_1]; rfl) (by decide) ?_
    refine lv_aload_n hx hb dX2_isHeader_52 rfl (lv_at hl 0 rfl) ?_
    refine lv_iload_n hx hb dX2_isHeader_53 rfl (lv_at hl 1 rfl) ?_
    refine va_calli (A0 := jA base) (H0 := s.heap) (va_runV (As := [.int a1]) (rest := []) ⟨hx, hb, hml, hown, hts⟩ (uX2_isInValueF l dC dI ca base B hB hAp hB4 G0 s.heap r0 a1 pl to ke sg il dg sv fi) (cwV 1 hts (jgV (jWr_18 _ (List.mem_of_getElem? (i := 13) rfl)) (jWr_18 _ (List.mem_of_getElem? (i := 14) rfl)) (jWr_18 _ (List.mem_of_getElem? (i := 15) rfl)) (jWr_1 _ (List.mem_of_getElem? (i := 18) rfl)) (jWr_18 _ (List.mem_of_getElem? (i := 16) rfl))) rfl rfl rfl (by decide +kernel) ⟨by rw [← hR]; exact Nat.le_of_ble_eq_true rfl, by rw [← hR]; exact Nat.le_of_ble_eq_true rfl⟩) ⟨fun a U g mk q => by obtain ⟨q0, q1, q2, qK, q10, q11, q12⟩ := q; exact ⟨q0, q1, q2, jG.calling g mk a qK, q10, q11, q12⟩, hh.recv (C := RX2) (T := TX2) (N := 12) hB4 rfl (by decide) hg_r0 hK, fun U hU hW => ⟨rfl, hU, hh.2.1, hG.step hW hU hh.1, hg_r0, (hh.2.2.1.sub (L1 := [(r0, 4, 5, .int pl), (r0, 4, 6, .int to), (r0, 4, 2, .int ke), (r0, 4, 8, .int sg), (r0, 4, 9, .int il), (r0, 4, 10, .int dg), (r0, 4, 11, .int sv), (r0, 4, 7, .int fi)]) [0, 1, 2, 3, 4, 5, 6, 7] rfl), trivial⟩⟩ rfl rfl hl.1 rfl (lv_room (Nat.le_of_ble_eq_true rfl)) dX2_isHeader_54 ⟨Nat.zero_le _, Nat.zero_le _⟩) hh.1 (fun q _ h => h) (fun q h => h) (fun r_9 u_8 t_8 H_8 locs_8 ht_8 hvm_8 hr_9 hb_8 hz_8 hk_8 hS_8 => ?_)
    obtain ⟨qp_8, rfl⟩ : ∃ z, z = u_8 := ⟨_, rfl⟩
    rw [ht_8] at hb_8
    obtain ⟨hb_81, hb_82, hb_83, hb_84, hb_85⟩ := hb_8
    have hh_8 : jSt (dC, dI) B base G0 G0 EX2_isHeaderF s.heap 0 0 [(r0, 4, 5, .int qp_8), (r0, 4, 6, .int to), (r0, 4, 2, .int ke), (r0, 4, 8, .int sg), (r0, 4, 9, .int il), (r0, 4, 10, .int dg), (r0, 4, 11, .int sv), (r0, 4, 7, .int fi)] [] [] H_8 locs_8 := ((hh.call hb_81 hb_82 hb_83 hb_84 hS_8 rfl (L1 := [(r0, 4, 6, .int to), (r0, 4, 2, .int ke), (r0, 4, 8, .int sg), (r0, 4, 9, .int il), (r0, 4, 10, .int dg), (r0, 4, 11, .int sv), (r0, 4, 7, .int fi)]) [1, 2, 3, 4, 5, 6, 7] rfl rfl (M1 := []) [] rfl rfl (I1 := []) [] rfl rfl).more hb_85)
    clear hh ht_8 hvm_8 hz_8 hk_8 hS_8 hb_81 hb_82 hb_83 hb_84 hb_85
    obtain ⟨hr_9b, hr_9p⟩ := hr_9
    obtain ⟨hr_9p_0, hr_9p_1⟩ := hr_9p
    have hr_9' := jb_01 hr_9b
    rw [hQ]
    exact W.zret (v := r_9) hx hb hr (jb_nz (hr_9b)) (fun t ht hW => ⟨⟨r_9, (qp_8, to, sg, il, dg, sv), rfl, ⟨(hr_9b), by (try dsimp only); refine ⟨?_, by omega, by omega, by omega, by omega, by omega, by omega, by omega, by omega, by omega, by omega, by omega, by omega, by omega, by omega, by omega, by omega⟩; exact jfHd_2 (by omega) hr_9p_0⟩, hh_8.rt (M1 := [(r0, 4, 5, .int qp_8), (r0, 4, 6, .int to), (r0, 4, 8, .int sg), (r0, 4, 9, .int il), (r0, 4, 10, .int dg), (r0, 4, 11, .int sv)]) [0, 1, 3, 4, 5, 6] rfl ht⟩, by rw [ht]; try exact hh_8.1.1, fun q h9 hq => by rw [ht]; try exact hh_8.1.2.1 q h9 hq⟩) hh_8.1.2.2 dX2_isHeader_57
  · refine lv_tableIn (off := 54) (tgt := 58) hx hb dX2_isHeader_4 (by omega) (by omega) (by rw [c_1]; rfl) (by decide) ?_
    refine lv_aload_n hx hb dX2_isHeader_58 rfl (lv_at hl 0 rfl) ?_
    refine lv_iload_n hx hb dX2_isHeader_59 rfl (lv_at hl 1 rfl) ?_
    refine va_calli (A0 := jA base) (H0 := s.heap) (va_runV (As := [.int a1]) (rest := []) ⟨hx, hb, hml, hown, hts⟩ (uX2_isInLengthF l dC dI ca base B hB hAp hB4 G0 s.heap r0 a1 pl to ke sg il dg sv fi) (cwV 1 hts (jgV (jWr_18 _ (List.mem_of_getElem? (i := 17) rfl)) (jWr_18 _ (List.mem_of_getElem? (i := 18) rfl)) (jWr_18 _ (List.mem_of_getElem? (i := 19) rfl)) (jWr_1 _ (List.mem_of_getElem? (i := 18) rfl)) (jWr_18 _ (List.mem_of_getElem? (i := 20) rfl))) rfl rfl rfl (by decide +kernel) ⟨by rw [← hR]; exact Nat.le_of_ble_eq_true rfl, by rw [← hR]; exact Nat.le_of_ble_eq_true rfl⟩) ⟨fun a U g mk q => by obtain ⟨q0, q1, q2, qK, q10, q11, q12⟩ := q; exact ⟨q0, q1, q2, jG.calling g mk a qK, q10, q11, q12⟩, hh.recv (C := RX2) (T := TX2) (N := 12) hB4 rfl (by decide) hg_r0 hK, fun U hU hW => ⟨rfl, hU, hh.2.1, hG.step hW hU hh.1, hg_r0, (hh.2.2.1.sub (L1 := [(r0, 4, 5, .int pl), (r0, 4, 6, .int to), (r0, 4, 2, .int ke), (r0, 4, 8, .int sg), (r0, 4, 9, .int il), (r0, 4, 10, .int dg), (r0, 4, 11, .int sv), (r0, 4, 7, .int fi)]) [0, 1, 2, 3, 4, 5, 6, 7] rfl), by first | omega | (refine ⟨?_, ?_, ?_, ?_, ?_, ?_⟩ <;> (first | omega | rfl | assumption | decide | exact Or.inl rfl | exact Or.inr rfl | (simp only; omega)))⟩⟩ rfl rfl hl.1 rfl (lv_room (Nat.le_of_ble_eq_true rfl)) dX2_isHeader_60 ⟨Nat.zero_le _, Nat.zero_le _⟩) hh.1 (fun q _ h => h) (fun q h => h) (fun r_11 u_10 t_10 H_10 locs_10 ht_10 hvm_10 hr_11 hb_10 hz_10 hk_10 hS_10 => ?_)
    obtain ⟨qp_10, qo_10, qd_10, qv_10⟩ := u_10
    rw [ht_10] at hb_10
    obtain ⟨hb_101, hb_102, hb_103, hb_104, hb_105⟩ := hb_10
    have hh_10 : jSt (dC, dI) B base G0 G0 EX2_isHeaderF s.heap 0 0 [(r0, 4, 5, .int qp_10), (r0, 4, 6, .int qo_10), (r0, 4, 10, .int qd_10), (r0, 4, 11, .int qv_10), (r0, 4, 2, .int ke), (r0, 4, 8, .int sg), (r0, 4, 9, .int il), (r0, 4, 7, .int fi)] [] [] H_10 locs_10 := ((hh.call hb_101 hb_102 hb_103 hb_104 hS_10 rfl (L1 := [(r0, 4, 2, .int ke), (r0, 4, 8, .int sg), (r0, 4, 9, .int il), (r0, 4, 7, .int fi)]) [2, 3, 4, 7] rfl rfl (M1 := []) [] rfl rfl (I1 := []) [] rfl rfl).more hb_105)
    clear hh ht_10 hvm_10 hz_10 hk_10 hS_10 hb_101 hb_102 hb_103 hb_104 hb_105
    try simp only at hr_11
    obtain ⟨hr_11b, hr_11p⟩ := hr_11
    obtain ⟨hr_11p_0, hr_11p_1, hr_11p_2, hr_11p_3, hr_11p_4, hr_11p_5, hr_11p_6⟩ := hr_11p
    have hr_11' := jb_01 hr_11b
    rw [hQ]
    exact W.zret (v := r_11) hx hb hr (jb_nz (hr_11b)) (fun t ht hW => ⟨⟨r_11, (qp_10, qo_10, sg, il, qd_10, qv_10), rfl, ⟨(hr_11b), by (try dsimp only); refine ⟨?_, by omega, by omega, by omega, by omega, by omega, by omega, by omega, by omega, by omega, by omega, by omega, by omega, by omega, by omega, by omega, by omega⟩; exact jfHd_3 (by omega) hr_11p_0⟩, hh_10.rt (M1 := [(r0, 4, 5, .int qp_10), (r0, 4, 6, .int qo_10), (r0, 4, 8, .int sg), (r0, 4, 9, .int il), (r0, 4, 10, .int qd_10), (r0, 4, 11, .int qv_10)]) [0, 1, 5, 6, 2, 3] rfl ht⟩, by rw [ht]; try exact hh_10.1.1, fun q h9 hq => by rw [ht]; try exact hh_10.1.2.1 q h9 hq⟩) hh_10.1.2.2 dX2_isHeader_63
  · refine lv_tableIn (off := 60) (tgt := 64) hx hb dX2_isHeader_4 (by omega) (by omega) (by rw [c_1]; rfl) (by decide) ?_
    refine lv_aload_n hx hb dX2_isHeader_64 rfl (lv_at hl 0 rfl) ?_
    refine lv_iconst (v := 0) hx hb dX2_isHeader_65 (by decide) ?_
    refine j7_put hx hb hown hK hh hB hAp hB4 (C := RX2) (T := TX2) (N := 12) rfl (by decide) hg_r0 (i := 5) (by decide) hly_4_5 rfl hlk_15 rfl (ty := .int) (v := .int 0) (by decide +kernel) rfl rfl (⟨_, rfl⟩) rfl (L1 := [(r0, 4, 6, .int to), (r0, 4, 2, .int ke), (r0, 4, 8, .int sg), (r0, 4, 9, .int il), (r0, 4, 10, .int dg), (r0, 4, 11, .int sv), (r0, 4, 7, .int fi)]) [1, 2, 3, 4, 5, 6, 7] rfl rfl rfl dX2_isHeader_66 (fun H_12 locs_12 hh_12 => ?_)
    clear hh
    refine lv_iload_n hx hb dX2_isHeader_69 rfl (lv_at hl 1 rfl) ?_
    refine lv_bipush (v := 10) hx hb dX2_isHeader_70 (by decide) ?_
    refine lv_icmp_ne (tgt := 79) hx hb dX2_isHeader_72 (by decide) (fun c_13 => ?_) (fun c_13 => ?_)
    · skip
      have c_13' : a1.toInt ≠ 10 := jb_ne (rfl) ((by decide)) c_13
      refine lv_iconst (v := 0) hx hb dX2_isHeader_79 (by decide) ?_
      rw [hQ]
      exact W.zret (v := 0) hx hb hr (jb_nz (Or.inl rfl)) (fun t ht hW => ⟨⟨0, (0, to, sg, il, dg, sv), rfl, ⟨(Or.inl rfl), by (try dsimp only); refine ⟨?_, by omega, by omega, by omega, by omega, by omega, by omega, by omega, by omega, by omega, by omega, by omega, by omega, by omega, by omega, by omega, by omega⟩; exact jfHd_4 (by omega) (by omega)⟩, hh_12.rt (M1 := [(r0, 4, 5, .int 0), (r0, 4, 6, .int to), (r0, 4, 8, .int sg), (r0, 4, 9, .int il), (r0, 4, 10, .int dg), (r0, 4, 11, .int sv)]) [0, 1, 3, 4, 5, 6] rfl ht⟩, by rw [ht]; try exact hh_12.1.1, fun q h9 hq => by rw [ht]; try exact hh_12.1.2.1 q h9 hq⟩) hh_12.1.2.2 dX2_isHeader_80
    · skip
      have c_13' : a1.toInt = 10 := jb_ne_n (rfl) ((by decide)) c_13
      refine lv_iconst (v := 1) hx hb dX2_isHeader_75 (by decide) ?_
      refine lv_goto (tgt := 80) hx hb dX2_isHeader_76 (by decide) ?_
      rw [hQ]
      exact W.zret (v := 1) hx hb hr (jb_nz (Or.inr rfl)) (fun t ht hW => ⟨⟨1, (0, to, sg, il, dg, sv), rfl, ⟨(Or.inr rfl), by (try dsimp only); refine ⟨?_, by omega, by omega, by omega, by omega, by omega, by omega, by omega, by omega, by omega, by omega, by omega, by omega, by omega, by omega, by omega, by omega⟩; exact jfHd_4 (by omega) (by omega)⟩, hh_12.rt (M1 := [(r0, 4, 5, .int 0), (r0, 4, 6, .int to), (r0, 4, 8, .int sg), (r0, 4, 9, .int il), (r0, 4, 10, .int dg), (r0, 4, 11, .int sv)]) [0, 1, 3, 4, 5, 6] rfl ht⟩, by rw [ht]; try exact hh_12.1.1, fun q h9 hq => by rw [ht]; try exact hh_12.1.2.1 q h9 hq⟩) hh_12.1.2.2 dX2_isHeader_80
set_option maxHeartbeats 4000000 in
set_option maxRecDepth 20000 in
theorem uX2_acceptF (l : Launch) (dC : Nat → ClassId) (dI : Nat → Nat → Nat) (ca : Nat → ClassId) (base : Nat) (B : jF) (hB : jBok B) (hAp : jAp (dC, dI)) (hB4 : ∀ n G a H, B 4 n G a H ↔ jOb (dC, dI) 4 12 (F4 n G) a H) (hB100 : ∀ n G a H, B 100 n G a H ↔ jAr (dC, dI) (ca 0) (fun j z => True) n a H) (G0 : jT) (H0 : Heap) (r0 : Nat) (a1 : Int32) (br : Int32) (pl : Int32) (to : Int32) (ke : Int32) (sg : Int32) (il : Int32) (dg : Int32) (sv : Int32) (fi : Int32) (bd_ : Nat) (D9 : Int → Int) (fb : Nat → Int32) : Met l yX2_accept (jw yX2_accept cX2_accept 2 (some .boolean)) ({ frames := 7, cells := 0, slots := 0, locals := 205 }) (va_Pc [.ref r0, .int a1] (fun U => U.heap = H0 ∧ jX B base G0 [] H0 ∧ jG dC dI ca base U ∧ G0 r0 = some (4, 0) ∧ G0 bd_ = some (100, 3000) ∧ jP (dC, dI) G0 H0 [(r0, 4, 4, .int br), (r0, 4, 5, .int pl), (r0, 4, 6, .int to), (r0, 4, 2, .int ke), (r0, 4, 8, .int sg), (r0, 4, 9, .int il), (r0, 4, 10, .int dg), (r0, 4, 11, .int sv), (r0, 4, 7, .int fi), (r0, 4, 0, .ref bd_)] ∧ jMc (dC, dI) G0 H0 [(bd_, 100, 3000, ca 0, fb)] ∧ br.toInt = 0 ∧ 0 ≤ a1.toInt ∧ a1.toInt ≤ 255 ∧ 0 ≤ br.toInt ∧ br.toInt ≤ 1 ∧ 0 ≤ fi.toInt ∧ fi.toInt ≤ 3000 ∧ -1 ≤ to.toInt ∧ to.toInt ≤ 3000 ∧ 0 ≤ ke.toInt ∧ ke.toInt ≤ 200 + fi.toInt ∧ 0 ≤ sv.toInt ∧ sv.toInt ≤ 3000 + 100000 * br.toInt ∧ (br.toInt = 1 ∨ (0 ≤ pl.toInt ∧ pl.toInt ≤ 6 ∧ 0 ≤ sg.toInt ∧ sg.toInt ≤ 300 ∧ (pl.toInt ≠ 1 ∨ sg.toInt ≤ ke.toInt) ∧ 0 ≤ il.toInt ∧ il.toInt ≤ 1 ∧ 0 ≤ dg.toInt ∧ dg.toInt ≤ 4 ∧ fi.toInt ≤ ke.toInt ∧ (pl.toInt ≤ 4 ∨ (fi.toInt + 1 ≤ ke.toInt ∧ 0 ≤ to.toInt)) ∧ (pl.toInt ≤ 5 ∨ (fi.toInt + 2 ≤ ke.toInt ∧ fi.toInt < to.toInt)) ∧ (pl.toInt = 6 ∨ fi.toInt = 0))) ∧ jfBd D9 fb 3000)) (va_Qi (S := Int32 × Int32 × Int32 × Int32 × Int32 × Int32 × Int32 × Int32 × Int32 × Int32 × (Nat → Int32)) (fun r u => (r = 0 ∨ r = 1) ∧ (jfA (jfV 0 pl.toInt to.toInt ke.toInt sg.toInt il.toInt dg.toInt sv.toInt fi.toInt) a1.toInt r.toInt u.2.2.2.2.2.2.2.2.2.1.toInt u.1.toInt u.2.1.toInt u.2.2.1.toInt u.2.2.2.1.toInt u.2.2.2.2.1.toInt u.2.2.2.2.2.1.toInt u.2.2.2.2.2.2.1.toInt u.2.2.2.2.2.2.2.1.toInt u.2.2.2.2.2.2.2.2.1.toInt ∧ 0 ≤ u.1.toInt ∧ u.1.toInt ≤ 1 ∧ 0 ≤ u.2.2.2.2.2.2.2.2.1.toInt ∧ u.2.2.2.2.2.2.2.2.1.toInt ≤ 3000 ∧ -1 ≤ u.2.2.1.toInt ∧ u.2.2.1.toInt ≤ 3000 ∧ 0 ≤ u.2.2.2.1.toInt ∧ u.2.2.2.1.toInt ≤ 200 + u.2.2.2.2.2.2.2.2.1.toInt ∧ 0 ≤ u.2.2.2.2.2.2.2.1.toInt ∧ u.2.2.2.2.2.2.2.1.toInt ≤ 3000 + 100000 * u.1.toInt ∧ (u.1.toInt = 1 ∨ (0 ≤ u.2.1.toInt ∧ u.2.1.toInt ≤ 6 ∧ 0 ≤ u.2.2.2.2.1.toInt ∧ u.2.2.2.2.1.toInt ≤ 300 ∧ (u.2.1.toInt ≠ 1 ∨ u.2.2.2.2.1.toInt ≤ u.2.2.2.1.toInt) ∧ 0 ≤ u.2.2.2.2.2.1.toInt ∧ u.2.2.2.2.2.1.toInt ≤ 1 ∧ 0 ≤ u.2.2.2.2.2.2.1.toInt ∧ u.2.2.2.2.2.2.1.toInt ≤ 4 ∧ u.2.2.2.2.2.2.2.2.1.toInt ≤ u.2.2.2.1.toInt ∧ (u.2.1.toInt ≤ 4 ∨ (u.2.2.2.2.2.2.2.2.1.toInt + 1 ≤ u.2.2.2.1.toInt ∧ 0 ≤ u.2.2.1.toInt)) ∧ (u.2.1.toInt ≤ 5 ∨ (u.2.2.2.2.2.2.2.2.1.toInt + 2 ≤ u.2.2.2.1.toInt ∧ u.2.2.2.2.2.2.2.2.1.toInt < u.2.2.1.toInt)) ∧ (u.2.1.toInt = 6 ∨ u.2.2.2.2.2.2.2.2.1.toInt = 0))) ∧ u.2.2.2.1.toInt ≤ ke.toInt + 1 ∧ (r.toInt = 0 ∨ (0 ≤ u.2.2.2.2.2.2.2.2.2.1.toInt ∧ u.2.2.2.2.2.2.2.2.2.1.toInt ≤ 3000 ∧ u.2.2.2.2.2.2.2.2.2.1.toInt + 1 ≤ ke.toInt ∧ u.2.2.2.1.toInt = 0 ∧ u.2.2.2.2.2.2.2.2.1.toInt = 0 ∧ u.2.1.toInt = 0 ∧ u.1.toInt = 0)) ∧ ((pl.toInt = 6 ∧ jfBd (jfBu D9 fi.toInt a1.toInt) u.2.2.2.2.2.2.2.2.2.2 3000) ∨ (pl.toInt ≠ 6 ∧ jfBd D9 u.2.2.2.2.2.2.2.2.2.2 3000)))) (fun u t => jRt (dC, dI) B base G0 EX2_acceptF H0 [(r0, 4, 4, .int u.1), (r0, 4, 5, .int u.2.1), (r0, 4, 6, .int u.2.2.1), (r0, 4, 2, .int u.2.2.2.1), (r0, 4, 8, .int u.2.2.2.2.1), (r0, 4, 9, .int u.2.2.2.2.2.1), (r0, 4, 10, .int u.2.2.2.2.2.2.1), (r0, 4, 11, .int u.2.2.2.2.2.2.2.1), (r0, 4, 7, .int u.2.2.2.2.2.2.2.2.1), (r0, 4, 1, .int u.2.2.2.2.2.2.2.2.2.1)] t.heap ∧ jMc (dC, dI) G0 t.heap [(bd_, 100, 3000, ca 0, u.2.2.2.2.2.2.2.2.2.2)]) (jA base)) 0 0 (jA base) := by
  refine Met.ofW (cc := cX2_accept) (maxL := 2) (ret := (some .boolean)) (by decide) rfl ?_
  intro p e s m args below meth c s₁ Bd hml hv
  obtain ⟨rfl, hH0, hX, hG, hg_r0, hg_bd_, hP0, hM0, hp0, hp1, hp2, hp3, hp4, hp5, hp6, hp7, hp8, hp9, hp10, hp11, hp12, hp13, hp14⟩ := hv
  have hK := hG.1
  have hx := Bd.exec
  have hb := Bd.bytes
  have hr := Bd.returns
  have hts := atoms_spec (ws := (jw yX2_accept cX2_accept 2 (some .boolean))) Bd.pre
  have htw : ∀ w ∈ jWl, w.before _ s = true := fun w h => hts w (List.mem_cons_of_mem _ h)
  have hown : s.vm.findClass RX2 = some m.cls := findClass_of_methodNamed Bd.named
  have hlocks := Bd.notSynchronized
  obtain ⟨Q, hQ⟩ : ∃ Q, Q = MQ below (va_Qi (S := Int32 × Int32 × Int32 × Int32 × Int32 × Int32 × Int32 × Int32 × Int32 × Int32 × (Nat → Int32)) (fun r u => (r = 0 ∨ r = 1) ∧ (jfA (jfV 0 pl.toInt to.toInt ke.toInt sg.toInt il.toInt dg.toInt sv.toInt fi.toInt) a1.toInt r.toInt u.2.2.2.2.2.2.2.2.2.1.toInt u.1.toInt u.2.1.toInt u.2.2.1.toInt u.2.2.2.1.toInt u.2.2.2.2.1.toInt u.2.2.2.2.2.1.toInt u.2.2.2.2.2.2.1.toInt u.2.2.2.2.2.2.2.1.toInt u.2.2.2.2.2.2.2.2.1.toInt ∧ 0 ≤ u.1.toInt ∧ u.1.toInt ≤ 1 ∧ 0 ≤ u.2.2.2.2.2.2.2.2.1.toInt ∧ u.2.2.2.2.2.2.2.2.1.toInt ≤ 3000 ∧ -1 ≤ u.2.2.1.toInt ∧ u.2.2.1.toInt ≤ 3000 ∧ 0 ≤ u.2.2.2.1.toInt ∧ u.2.2.2.1.toInt ≤ 200 + u.2.2.2.2.2.2.2.2.1.toInt ∧ 0 ≤ u.2.2.2.2.2.2.2.1.toInt ∧ u.2.2.2.2.2.2.2.1.toInt ≤ 3000 + 100000 * u.1.toInt ∧ (u.1.toInt = 1 ∨ (0 ≤ u.2.1.toInt ∧ u.2.1.toInt ≤ 6 ∧ 0 ≤ u.2.2.2.2.1.toInt ∧ u.2.2.2.2.1.toInt ≤ 300 ∧ (u.2.1.toInt ≠ 1 ∨ u.2.2.2.2.1.toInt ≤ u.2.2.2.1.toInt) ∧ 0 ≤ u.2.2.2.2.2.1.toInt ∧ u.2.2.2.2.2.1.toInt ≤ 1 ∧ 0 ≤ u.2.2.2.2.2.2.1.toInt ∧ u.2.2.2.2.2.2.1.toInt ≤ 4 ∧ u.2.2.2.2.2.2.2.2.1.toInt ≤ u.2.2.2.1.toInt ∧ (u.2.1.toInt ≤ 4 ∨ (u.2.2.2.2.2.2.2.2.1.toInt + 1 ≤ u.2.2.2.1.toInt ∧ 0 ≤ u.2.2.1.toInt)) ∧ (u.2.1.toInt ≤ 5 ∨ (u.2.2.2.2.2.2.2.2.1.toInt + 2 ≤ u.2.2.2.1.toInt ∧ u.2.2.2.2.2.2.2.2.1.toInt < u.2.2.1.toInt)) ∧ (u.2.1.toInt = 6 ∨ u.2.2.2.2.2.2.2.2.1.toInt = 0))) ∧ u.2.2.2.1.toInt ≤ ke.toInt + 1 ∧ (r.toInt = 0 ∨ (0 ≤ u.2.2.2.2.2.2.2.2.2.1.toInt ∧ u.2.2.2.2.2.2.2.2.2.1.toInt ≤ 3000 ∧ u.2.2.2.2.2.2.2.2.2.1.toInt + 1 ≤ ke.toInt ∧ u.2.2.2.1.toInt = 0 ∧ u.2.2.2.2.2.2.2.2.1.toInt = 0 ∧ u.2.1.toInt = 0 ∧ u.1.toInt = 0)) ∧ ((pl.toInt = 6 ∧ jfBd (jfBu D9 fi.toInt a1.toInt) u.2.2.2.2.2.2.2.2.2.2 3000) ∨ (pl.toInt ≠ 6 ∧ jfBd D9 u.2.2.2.2.2.2.2.2.2.2 3000)))) (fun u t => jRt (dC, dI) B base G0 EX2_acceptF H0 [(r0, 4, 4, .int u.1), (r0, 4, 5, .int u.2.1), (r0, 4, 6, .int u.2.2.1), (r0, 4, 2, .int u.2.2.2.1), (r0, 4, 8, .int u.2.2.2.2.1), (r0, 4, 9, .int u.2.2.2.2.2.1), (r0, 4, 10, .int u.2.2.2.2.2.2.1), (r0, 4, 11, .int u.2.2.2.2.2.2.2.1), (r0, 4, 7, .int u.2.2.2.2.2.2.2.2.1), (r0, 4, 1, .int u.2.2.2.2.2.2.2.2.2.1)] t.heap ∧ jMc (dC, dI) G0 t.heap [(bd_, 100, 3000, ca 0, u.2.2.2.2.2.2.2.2.2.2)]) (jA base)) ([.ref r0, .int a1] : List Value).toArray s 0 0 (jA base) := ⟨_, rfl⟩
  rw [← hQ]
  have hl := lv_entry ([.ref r0, .int a1]) (n := 2) (Nat.le_of_ble_eq_true rfl)
  rw [lg_entry_eq]
  generalize (lg_sl ([.ref r0, .int a1]) ++ List.replicate (2 - (lg_sl ([.ref r0, .int a1])).length) Slot.unset).toArray = ls at hl ⊢
  have hl : lv_has ls 2 [(0, .ref r0), (1, .int a1)] := hl
  generalize hR : (headSpec (jw yX2_accept cX2_accept 2 (some .boolean)) ({ frames := 7, cells := 0, slots := 0, locals := 205 })).room = R
  subst hH0
  have hh : jSt (dC, dI) B base G0 G0 EX2_acceptF s.heap 0 0 [(r0, 4, 4, .int br), (r0, 4, 5, .int pl), (r0, 4, 6, .int to), (r0, 4, 2, .int ke), (r0, 4, 8, .int sg), (r0, 4, 9, .int il), (r0, 4, 10, .int dg), (r0, 4, 11, .int sv), (r0, 4, 7, .int fi), (r0, 4, 0, .ref bd_)] [(bd_, 100, 3000, ca 0, fb)] [] s.heap [] := jSt.start hX hP0 hM0 jIs.nil
  clear hX hP0
  have hkm1 : ((-1) : Int32).toInt = (-1) := by decide
  have hk0 : (0 : Int32).toInt = 0 := by decide
  have hk1 : (1 : Int32).toInt = 1 := by decide
  have hk6 : (6 : Int32).toInt = 6 := by decide
  have hk200 : (200 : Int32).toInt = 200 := by decide
  have hly_4_0 := htw (u_lay RX2 TX2 0) (jWc_wsX20 _ (u_in_lay (by decide)))
  have hly_4_1 := htw (u_lay RX2 TX2 1) (jWc_wsX20 _ (u_in_lay (by decide)))
  have hly_4_2 := htw (u_lay RX2 TX2 2) (jWc_wsX20 _ (u_in_lay (by decide)))
  have hly_4_3 := htw (u_lay RX2 TX2 3) (jWc_wsX20 _ (u_in_lay (by decide)))
  have hly_4_4 := htw (u_lay RX2 TX2 4) (jWc_wsX20 _ (u_in_lay (by decide)))
  have hly_4_5 := htw (u_lay RX2 TX2 5) (jWc_wsX20 _ (u_in_lay (by decide)))
  have hly_4_6 := htw (u_lay RX2 TX2 6) (jWc_wsX20 _ (u_in_lay (by decide)))
  have hly_4_7 := htw (u_lay RX2 TX2 7) (jWc_wsX20 _ (u_in_lay (by decide)))
  have hlk_22 := (htw (.fieldLink RX2 22 "ProofServer$Frames" "broken" "Z") (jWr_17 _ (List.mem_of_getElem? (i := 14) rfl)))
  have hlk_15 := (htw (.fieldLink RX2 15 "ProofServer$Frames" "place" "I") (jWr_3 _ (List.mem_of_getElem? (i := 15) rfl)))
  have hlk_26 := (htw (.fieldLink RX2 26 "ProofServer$Frames" "filled" "I") (jWr_17 _ (List.mem_of_getElem? (i := 15) rfl)))
  have hlk_9 := (htw (.fieldLink RX2 9 "ProofServer$Frames" "body" "[B") (jWr_3 _ (List.mem_of_getElem? (i := 14) rfl)))
  have hlk_29 := (htw (.fieldLink RX2 29 "ProofServer$Frames" "kept" "I") (jWr_17 _ (List.mem_of_getElem? (i := 16) rfl)))
  have hlk_19 := (htw (.fieldLink RX2 19 "ProofServer$Frames" "told" "I") (jWr_3 _ (List.mem_of_getElem? (i := 16) rfl)))
  have hlk_36 := (htw (.fieldLink RX2 36 "ProofServer$Frames" "length" "I") (jWr_17 _ (List.mem_of_getElem? (i := 17) rfl)))
  have hlk_39 := (htw (.fieldLink RX2 39 "ProofServer$Frames" "messages" "I") (jWr_17 _ (List.mem_of_getElem? (i := 18) rfl)))
  have hrg_a1 := jb_rng a1
  have hD9 := hp14
  refine lv_aload_n hx hb dX2_accept_0 rfl (lv_at hl 0 rfl) ?_
  refine j7_read hx hb hown hK (C := RX2) (T := TX2) (N := 12) rfl hly_4_4 hlk_22 (hh.at 0 rfl) dX2_accept_1 ?_
  refine lv_if_eq (tgt := 9) hx hb dX2_accept_4 (by decide) (fun c_1 => ?_) (fun c_1 => ?_)
  · skip
    have c_1' : br.toInt = 0 := jb_eq (rfl) ((by decide)) c_1
    refine lv_aload_n hx hb dX2_accept_9 rfl (lv_at hl 0 rfl) ?_
    refine j7_read hx hb hown hK (C := RX2) (T := TX2) (N := 12) rfl hly_4_5 hlk_15 (hh.at 1 rfl) dX2_accept_10 ?_
    refine lv_bipush (v := 6) hx hb dX2_accept_13 (by decide) ?_
    refine lv_icmp_ne (tgt := 54) hx hb dX2_accept_15 (by decide) (fun c_2 => ?_) (fun c_2 => ?_)
    · skip
      have c_2' : pl.toInt ≠ 6 := jb_ne (rfl) ((by decide)) c_2
      refine lv_aload_n hx hb dX2_accept_54 rfl (lv_at hl 0 rfl) ?_
      refine j7_read hx hb hown hK (C := RX2) (T := TX2) (N := 12) rfl hly_4_2 hlk_29 (hh.at 3 rfl) dX2_accept_55 ?_
      refine lv_sipush (v := 200) hx hb dX2_accept_58 (by decide) ?_
      refine lv_icmp_ge (tgt := 72) hx hb dX2_accept_61 (by decide) (fun c_3 => ?_) (fun c_3 => ?_)
      · skip
        have c_3' : ke.toInt ≥ 200 := jb_ge (rfl) ((by decide)) c_3
        refine lv_aload_n hx hb dX2_accept_72 rfl (lv_at hl 0 rfl) ?_
        refine lv_iconst (v := 1) hx hb dX2_accept_73 (by decide) ?_
        refine j7_put hx hb hown hK hh hB hAp hB4 (C := RX2) (T := TX2) (N := 12) rfl (by decide) hg_r0 (i := 4) (by decide) hly_4_4 rfl hlk_22 rfl (ty := .boolean) (v := .int 1) (by decide +kernel) (jb_nz (Or.inr rfl)) (jb_fz (Or.inr rfl)) (⟨_, rfl, (Or.inr rfl)⟩) rfl (L1 := [(r0, 4, 5, .int pl), (r0, 4, 6, .int to), (r0, 4, 2, .int ke), (r0, 4, 8, .int sg), (r0, 4, 9, .int il), (r0, 4, 10, .int dg), (r0, 4, 11, .int sv), (r0, 4, 7, .int fi), (r0, 4, 0, .ref bd_)]) [1, 2, 3, 4, 5, 6, 7, 8, 9] rfl rfl rfl dX2_accept_74 (fun H_4 locs_4 hh_4 => ?_)
        clear hh
        refine lv_iconst (v := 0) hx hb dX2_accept_77 (by decide) ?_
        rw [hQ]
        obtain ⟨v_5, hv_5, hh_6⟩ := hh_4.pin (C := RX2) (T := TX2) (N := 12) hB4 rfl (by decide) hg_r0 (i := 1) (by decide) rfl
        obtain ⟨length_7, rfl, hlolength_7, hhilength_7⟩ := hv_5
        exact W.zret (v := 0) hx hb hr (jb_nz (Or.inl rfl)) (fun t ht hW => ⟨⟨0, (1, pl, to, ke, sg, il, dg, sv, fi, length_7, fb), rfl, ⟨(Or.inl rfl), by (try dsimp only); refine ⟨jfA.xo (by omega) (Or.inl (by omega)) (by omega) (by omega), by omega, by omega, by omega, by omega, by omega, by omega, by omega, by omega, by omega, by omega, by omega, by omega, by omega, ?_⟩; exact Or.inr ⟨by omega, hD9⟩⟩, ⟨hh_6.rt (M1 := [(r0, 4, 4, .int 1), (r0, 4, 5, .int pl), (r0, 4, 6, .int to), (r0, 4, 2, .int ke), (r0, 4, 8, .int sg), (r0, 4, 9, .int il), (r0, 4, 10, .int dg), (r0, 4, 11, .int sv), (r0, 4, 7, .int fi), (r0, 4, 1, .int length_7)]) [1, 2, 3, 4, 5, 6, 7, 8, 9, 0] rfl ht, by rw [ht]; exact hh_6.2.2.2.2.2.2.2.1.sub [0] rfl⟩⟩, by rw [ht]; try exact hh_6.1.1, fun q h9 hq => by rw [ht]; try exact hh_6.1.2.1 q h9 hq⟩) hh_6.1.2.2 dX2_accept_78
      · skip
        have c_3' : ke.toInt < 200 := jb_ge_n (rfl) ((by decide)) c_3
        refine lv_aload_n hx hb dX2_accept_64 rfl (lv_at hl 0 rfl) ?_
        refine lv_iload_n hx hb dX2_accept_65 rfl (lv_at hl 1 rfl) ?_
        refine va_calli (A0 := jA base) (H0 := s.heap) (va_runV (As := [.int a1]) (rest := []) ⟨hx, hb, hml, hown, hts⟩ (uX2_isHeaderF l dC dI ca base B hB hAp hB4 G0 s.heap r0 a1 pl to ke sg il dg sv fi) (cwV 1 hts (jgV (jWr_17 _ (List.mem_of_getElem? (i := 19) rfl)) (jWr_17 _ (List.mem_of_getElem? (i := 20) rfl)) (jWr_17 _ (List.mem_of_getElem? (i := 21) rfl)) (jWr_1 _ (List.mem_of_getElem? (i := 18) rfl)) (jWr_17 _ (List.mem_of_getElem? (i := 22) rfl))) rfl rfl rfl (by decide +kernel) ⟨by rw [← hR]; exact Nat.le_of_ble_eq_true rfl, by rw [← hR]; exact Nat.le_of_ble_eq_true rfl⟩) ⟨fun a U g mk q => by obtain ⟨q0, q1, q2, qK, q10, q11, q12⟩ := q; exact ⟨q0, q1, q2, jG.calling g mk a qK, q10, q11, q12⟩, hh.recv (C := RX2) (T := TX2) (N := 12) hB4 rfl (by decide) hg_r0 hK, fun U hU hW => ⟨rfl, hU, hh.2.1, hG.step hW hU hh.1, hg_r0, (hh.2.2.1.sub (L1 := [(r0, 4, 5, .int pl), (r0, 4, 6, .int to), (r0, 4, 2, .int ke), (r0, 4, 8, .int sg), (r0, 4, 9, .int il), (r0, 4, 10, .int dg), (r0, 4, 11, .int sv), (r0, 4, 7, .int fi)]) [1, 2, 3, 4, 5, 6, 7, 8] rfl), by first | omega | (refine ⟨?_, ?_, ?_, ?_, ?_, ?_, ?_, ?_, ?_, ?_, ?_, ?_, ?_, ?_, ?_⟩ <;> (first | omega | rfl | assumption | decide | exact Or.inl rfl | exact Or.inr rfl | (simp only; omega)))⟩⟩ rfl rfl hl.1 rfl (lv_room (Nat.le_of_ble_eq_true rfl)) dX2_accept_66 ⟨Nat.zero_le _, Nat.zero_le _⟩) hh.1 (fun q _ h => h) (fun q h => h) (fun r_9 u_8 t_8 H_8 locs_8 ht_8 hvm_8 hr_9 hb_8 hz_8 hk_8 hS_8 => ?_)
        obtain ⟨qp_8, qo_8, qg_8, ql_8, qd_8, qv_8⟩ := u_8
        rw [ht_8] at hb_8
        obtain ⟨hb_81, hb_82, hb_83, hb_84, hb_85⟩ := hb_8
        have hh_8 : jSt (dC, dI) B base G0 G0 EX2_acceptF s.heap 0 0 [(r0, 4, 5, .int qp_8), (r0, 4, 6, .int qo_8), (r0, 4, 8, .int qg_8), (r0, 4, 9, .int ql_8), (r0, 4, 10, .int qd_8), (r0, 4, 11, .int qv_8), (r0, 4, 4, .int br), (r0, 4, 2, .int ke), (r0, 4, 7, .int fi), (r0, 4, 0, .ref bd_)] [(bd_, 100, 3000, ca 0, fb)] [] H_8 locs_8 := ((hh.call hb_81 hb_82 hb_83 hb_84 hS_8 rfl (L1 := [(r0, 4, 4, .int br), (r0, 4, 2, .int ke), (r0, 4, 7, .int fi), (r0, 4, 0, .ref bd_)]) [0, 3, 8, 9] rfl rfl (M1 := [(bd_, 100, 3000, ca 0, fb)]) [0] rfl rfl (I1 := []) [] rfl rfl).more hb_85)
        clear hh ht_8 hvm_8 hz_8 hk_8 hS_8 hb_81 hb_82 hb_83 hb_84 hb_85
        try simp only at hr_9
        obtain ⟨hr_9b, hr_9p⟩ := hr_9
        obtain ⟨hr_9p_0, hr_9p_1, hr_9p_2, hr_9p_3, hr_9p_4, hr_9p_5, hr_9p_6, hr_9p_7, hr_9p_8, hr_9p_9, hr_9p_10, hr_9p_11, hr_9p_12, hr_9p_13, hr_9p_14, hr_9p_15, hr_9p_16⟩ := hr_9p
        have hr_9' := jb_01 hr_9b
        refine lv_if_ne (tgt := 79) hx hb dX2_accept_69 (by decide) (fun c_10 => ?_) (fun c_10 => ?_)
        · skip
          have c_10' : r_9.toInt ≠ 0 := jb_ne (rfl) ((by decide)) c_10
          first | (have hr_9p_11q := hr_9p_11.resolve_left (by omega); clear hr_9p_11) | (have hr_9p_11q := hr_9p_11.resolve_right (by omega); clear hr_9p_11) | skip
          first | (have hr_9p_12q := hr_9p_12.resolve_left (by omega); clear hr_9p_12) | (have hr_9p_12q := hr_9p_12.resolve_right (by omega); clear hr_9p_12) | skip
          first | (have hr_9p_15q := hr_9p_15.resolve_left (by omega); clear hr_9p_15) | (have hr_9p_15q := hr_9p_15.resolve_right (by omega); clear hr_9p_15) | skip
          first | (have hr_9p_16q := hr_9p_16.resolve_left (by omega); clear hr_9p_16) | (have hr_9p_16q := hr_9p_16.resolve_right (by omega); clear hr_9p_16) | skip
          refine lv_aload_n hx hb dX2_accept_79 rfl (lv_at hl 0 rfl) ?_
          refine lv_dup hx hb dX2_accept_80 rfl ?_
          refine j7_read hx hb hown hK (C := RX2) (T := TX2) (N := 12) rfl hly_4_2 hlk_29 (hh_8.at 7 rfl) dX2_accept_81 ?_
          refine lv_iconst (v := 1) hx hb dX2_accept_84 (by decide) ?_
          refine lv_iadd hx hb dX2_accept_85 ?_
          refine lv_topi (fun z_11 ez_11 => ?_)
          have hz_11 : z_11.toInt = ke.toInt + 1 := by rw [ez_11]; exact jb_iadd2 (rfl) ((by decide)) (by omega)
          refine j7_put hx hb hown hK hh_8 hB hAp hB4 (C := RX2) (T := TX2) (N := 12) rfl (by decide) hg_r0 (i := 2) (by decide) hly_4_2 rfl hlk_29 rfl (ty := .int) (v := .int z_11) (by decide +kernel) rfl rfl (⟨_, rfl⟩) rfl (L1 := [(r0, 4, 5, .int qp_8), (r0, 4, 6, .int qo_8), (r0, 4, 8, .int qg_8), (r0, 4, 9, .int ql_8), (r0, 4, 10, .int qd_8), (r0, 4, 11, .int qv_8), (r0, 4, 4, .int br), (r0, 4, 7, .int fi), (r0, 4, 0, .ref bd_)]) [0, 1, 2, 3, 4, 5, 6, 8, 9] rfl rfl rfl dX2_accept_86 (fun H_12 locs_12 hh_12 => ?_)
          clear hh_8
          refine lv_aload_n hx hb dX2_accept_89 rfl (lv_at hl 0 rfl) ?_
          refine j7_read hx hb hown hK (C := RX2) (T := TX2) (N := 12) rfl hly_4_5 hlk_15 (hh_12.at 1 rfl) dX2_accept_90 ?_
          refine lv_bipush (v := 6) hx hb dX2_accept_93 (by decide) ?_
          refine lv_icmp_ne (tgt := 109) hx hb dX2_accept_95 (by decide) (fun c_13 => ?_) (fun c_13 => ?_)
          · skip
            have c_13' : qp_8.toInt ≠ 6 := jb_ne (rfl) ((by decide)) c_13
            refine lv_iconst (v := 0) hx hb dX2_accept_109 (by decide) ?_
            rw [hQ]
            obtain ⟨v_14, hv_14, hh_15⟩ := hh_12.pin (C := RX2) (T := TX2) (N := 12) hB4 rfl (by decide) hg_r0 (i := 1) (by decide) rfl
            obtain ⟨length_16, rfl, hlolength_16, hhilength_16⟩ := hv_14
            exact W.zret (v := 0) hx hb hr (jb_nz (Or.inl rfl)) (fun t ht hW => ⟨⟨0, (br, qp_8, qo_8, z_11, qg_8, ql_8, qd_8, qv_8, fi, length_16, fb), rfl, ⟨(Or.inl rfl), by (try dsimp only); refine ⟨jfA.hn (by omega) (by omega) (jfr1 hr_9p_0 (by omega)) (by omega) (by omega) (by omega) (by omega), by omega, by omega, by omega, by omega, by omega, by omega, by omega, by omega, by omega, by omega, by omega, by omega, by omega, ?_⟩; exact Or.inr ⟨by omega, hD9⟩⟩, ⟨hh_15.rt (M1 := [(r0, 4, 4, .int br), (r0, 4, 5, .int qp_8), (r0, 4, 6, .int qo_8), (r0, 4, 2, .int z_11), (r0, 4, 8, .int qg_8), (r0, 4, 9, .int ql_8), (r0, 4, 10, .int qd_8), (r0, 4, 11, .int qv_8), (r0, 4, 7, .int fi), (r0, 4, 1, .int length_16)]) [8, 2, 3, 1, 4, 5, 6, 7, 9, 0] rfl ht, by rw [ht]; exact hh_15.2.2.2.2.2.2.2.1.sub [0] rfl⟩⟩, by rw [ht]; try exact hh_15.1.1, fun q h9 hq => by rw [ht]; try exact hh_15.1.2.1 q h9 hq⟩) hh_15.1.2.2 dX2_accept_110
          · skip
            have c_13' : qp_8.toInt = 6 := jb_ne_n (rfl) ((by decide)) c_13
            first | (have hr_9p_11q := hr_9p_11.resolve_left (by omega); clear hr_9p_11) | (have hr_9p_11q := hr_9p_11.resolve_right (by omega); clear hr_9p_11) | skip
            first | (have hr_9p_12q := hr_9p_12.resolve_left (by omega); clear hr_9p_12) | (have hr_9p_12q := hr_9p_12.resolve_right (by omega); clear hr_9p_12) | skip
            first | (have hr_9p_15q := hr_9p_15.resolve_left (by omega); clear hr_9p_15) | (have hr_9p_15q := hr_9p_15.resolve_right (by omega); clear hr_9p_15) | skip
            first | (have hr_9p_16q := hr_9p_16.resolve_left (by omega); clear hr_9p_16) | (have hr_9p_16q := hr_9p_16.resolve_right (by omega); clear hr_9p_16) | skip
            refine lv_aload_n hx hb dX2_accept_98 rfl (lv_at hl 0 rfl) ?_
            refine j7_read hx hb hown hK (C := RX2) (T := TX2) (N := 12) rfl hly_4_7 hlk_26 (hh_12.at 8 rfl) dX2_accept_99 ?_
            refine lv_aload_n hx hb dX2_accept_102 rfl (lv_at hl 0 rfl) ?_
            refine j7_read hx hb hown hK (C := RX2) (T := TX2) (N := 12) rfl hly_4_6 hlk_19 (hh_12.at 2 rfl) dX2_accept_103 ?_
            refine lv_icmp_ge (tgt := 111) hx hb dX2_accept_106 (by decide) (fun c_17 => ?_) (fun c_17 => ?_)
            · skip
              have c_17' : fi.toInt ≥ qo_8.toInt := jb_ge (rfl) (rfl) c_17
              first | (have hr_9p_11q := hr_9p_11.resolve_left (by omega); clear hr_9p_11) | (have hr_9p_11q := hr_9p_11.resolve_right (by omega); clear hr_9p_11) | skip
              first | (have hr_9p_12q := hr_9p_12.resolve_left (by omega); clear hr_9p_12) | (have hr_9p_12q := hr_9p_12.resolve_right (by omega); clear hr_9p_12) | skip
              first | (have hr_9p_15q := hr_9p_15.resolve_left (by omega); clear hr_9p_15) | (have hr_9p_15q := hr_9p_15.resolve_right (by omega); clear hr_9p_15) | skip
              first | (have hr_9p_16q := hr_9p_16.resolve_left (by omega); clear hr_9p_16) | (have hr_9p_16q := hr_9p_16.resolve_right (by omega); clear hr_9p_16) | skip
              refine lv_aload_n hx hb dX2_accept_111 rfl (lv_at hl 0 rfl) ?_
              refine lv_aload_n hx hb dX2_accept_112 rfl (lv_at hl 0 rfl) ?_
              refine j7_read hx hb hown hK (C := RX2) (T := TX2) (N := 12) rfl hly_4_6 hlk_19 (hh_12.at 2 rfl) dX2_accept_113 ?_
              refine j7_put hx hb hown hK hh_12 hB hAp hB4 (C := RX2) (T := TX2) (N := 12) rfl (by decide) hg_r0 (i := 1) (by decide) hly_4_1 rfl hlk_36 rfl (ty := .int) (v := .int qo_8) (by decide +kernel) rfl rfl (⟨_, rfl, by omega, by omega⟩) rfl (L1 := [(r0, 4, 2, .int z_11), (r0, 4, 5, .int qp_8), (r0, 4, 6, .int qo_8), (r0, 4, 8, .int qg_8), (r0, 4, 9, .int ql_8), (r0, 4, 10, .int qd_8), (r0, 4, 11, .int qv_8), (r0, 4, 4, .int br), (r0, 4, 7, .int fi), (r0, 4, 0, .ref bd_)]) [0, 1, 2, 3, 4, 5, 6, 7, 8, 9] rfl rfl rfl dX2_accept_116 (fun H_18 locs_18 hh_18 => ?_)
              clear hh_12
              refine lv_aload_n hx hb dX2_accept_119 rfl (lv_at hl 0 rfl) ?_
              refine lv_iconst (v := (-1)) hx hb dX2_accept_120 (by decide) ?_
              refine j7_put hx hb hown hK hh_18 hB hAp hB4 (C := RX2) (T := TX2) (N := 12) rfl (by decide) hg_r0 (i := 6) (by decide) hly_4_6 rfl hlk_19 rfl (ty := .int) (v := .int (-1)) (by decide +kernel) rfl rfl (⟨_, rfl, by omega, by omega⟩) rfl (L1 := [(r0, 4, 1, .int qo_8), (r0, 4, 2, .int z_11), (r0, 4, 5, .int qp_8), (r0, 4, 8, .int qg_8), (r0, 4, 9, .int ql_8), (r0, 4, 10, .int qd_8), (r0, 4, 11, .int qv_8), (r0, 4, 4, .int br), (r0, 4, 7, .int fi), (r0, 4, 0, .ref bd_)]) [0, 1, 2, 4, 5, 6, 7, 8, 9, 10] rfl rfl rfl dX2_accept_121 (fun H_19 locs_19 hh_19 => ?_)
              clear hh_18
              refine lv_aload_n hx hb dX2_accept_124 rfl (lv_at hl 0 rfl) ?_
              refine lv_iconst (v := 0) hx hb dX2_accept_125 (by decide) ?_
              refine j7_put hx hb hown hK hh_19 hB hAp hB4 (C := RX2) (T := TX2) (N := 12) rfl (by decide) hg_r0 (i := 7) (by decide) hly_4_7 rfl hlk_26 rfl (ty := .int) (v := .int 0) (by decide +kernel) rfl rfl (⟨_, rfl, by omega, by omega⟩) rfl (L1 := [(r0, 4, 6, .int (-1)), (r0, 4, 1, .int qo_8), (r0, 4, 2, .int z_11), (r0, 4, 5, .int qp_8), (r0, 4, 8, .int qg_8), (r0, 4, 9, .int ql_8), (r0, 4, 10, .int qd_8), (r0, 4, 11, .int qv_8), (r0, 4, 4, .int br), (r0, 4, 0, .ref bd_)]) [0, 1, 2, 3, 4, 5, 6, 7, 8, 10] rfl rfl rfl dX2_accept_126 (fun H_20 locs_20 hh_20 => ?_)
              clear hh_19
              refine lv_aload_n hx hb dX2_accept_129 rfl (lv_at hl 0 rfl) ?_
              refine lv_iconst (v := 0) hx hb dX2_accept_130 (by decide) ?_
              refine j7_put hx hb hown hK hh_20 hB hAp hB4 (C := RX2) (T := TX2) (N := 12) rfl (by decide) hg_r0 (i := 2) (by decide) hly_4_2 rfl hlk_29 rfl (ty := .int) (v := .int 0) (by decide +kernel) rfl rfl (⟨_, rfl⟩) rfl (L1 := [(r0, 4, 7, .int 0), (r0, 4, 6, .int (-1)), (r0, 4, 1, .int qo_8), (r0, 4, 5, .int qp_8), (r0, 4, 8, .int qg_8), (r0, 4, 9, .int ql_8), (r0, 4, 10, .int qd_8), (r0, 4, 11, .int qv_8), (r0, 4, 4, .int br), (r0, 4, 0, .ref bd_)]) [0, 1, 2, 4, 5, 6, 7, 8, 9, 10] rfl rfl rfl dX2_accept_131 (fun H_21 locs_21 hh_21 => ?_)
              clear hh_20
              refine lv_aload_n hx hb dX2_accept_134 rfl (lv_at hl 0 rfl) ?_
              refine lv_iconst (v := 0) hx hb dX2_accept_135 (by decide) ?_
              refine j7_put hx hb hown hK hh_21 hB hAp hB4 (C := RX2) (T := TX2) (N := 12) rfl (by decide) hg_r0 (i := 5) (by decide) hly_4_5 rfl hlk_15 rfl (ty := .int) (v := .int 0) (by decide +kernel) rfl rfl (⟨_, rfl⟩) rfl (L1 := [(r0, 4, 2, .int 0), (r0, 4, 7, .int 0), (r0, 4, 6, .int (-1)), (r0, 4, 1, .int qo_8), (r0, 4, 8, .int qg_8), (r0, 4, 9, .int ql_8), (r0, 4, 10, .int qd_8), (r0, 4, 11, .int qv_8), (r0, 4, 4, .int br), (r0, 4, 0, .ref bd_)]) [0, 1, 2, 3, 5, 6, 7, 8, 9, 10] rfl rfl rfl dX2_accept_136 (fun H_22 locs_22 hh_22 => ?_)
              clear hh_21
              refine lv_aload_n hx hb dX2_accept_139 rfl (lv_at hl 0 rfl) ?_
              refine lv_dup hx hb dX2_accept_140 rfl ?_
              obtain ⟨v_23, hv_23, hh_24⟩ := hh_22.pin (C := RX2) (T := TX2) (N := 12) hB4 rfl (by decide) hg_r0 (i := 3) (by decide) rfl
              clear hh_22
              obtain ⟨messages_25, rfl⟩ := hv_23
              refine j7_read hx hb hown hK (C := RX2) (T := TX2) (N := 12) rfl hly_4_3 hlk_39 (hh_24.at 0 rfl) dX2_accept_141 ?_
              refine lv_iconst (v := 1) hx hb dX2_accept_144 (by decide) ?_
              refine lv_iadd hx hb dX2_accept_145 ?_
              refine lv_topi (fun z_26 ez_26 => ?_)
              refine j7_put hx hb hown hK hh_24 hB hAp hB4 (C := RX2) (T := TX2) (N := 12) rfl (by decide) hg_r0 (i := 3) (by decide) hly_4_3 rfl hlk_39 rfl (ty := .int) (v := .int z_26) (by decide +kernel) rfl rfl (⟨_, rfl⟩) rfl (L1 := [(r0, 4, 5, .int 0), (r0, 4, 2, .int 0), (r0, 4, 7, .int 0), (r0, 4, 6, .int (-1)), (r0, 4, 1, .int qo_8), (r0, 4, 8, .int qg_8), (r0, 4, 9, .int ql_8), (r0, 4, 10, .int qd_8), (r0, 4, 11, .int qv_8), (r0, 4, 4, .int br), (r0, 4, 0, .ref bd_)]) [1, 2, 3, 4, 5, 6, 7, 8, 9, 10, 11] rfl rfl rfl dX2_accept_146 (fun H_27 locs_27 hh_27 => ?_)
              clear hh_24
              refine lv_iconst (v := 1) hx hb dX2_accept_149 (by decide) ?_
              rw [hQ]
              exact W.zret (v := 1) hx hb hr (jb_nz (Or.inr rfl)) (fun t ht hW => ⟨⟨1, (br, 0, (-1), 0, qg_8, ql_8, qd_8, qv_8, 0, qo_8, fb), rfl, ⟨(Or.inr rfl), by (try dsimp only); refine ⟨jfA.hy (by omega) (by omega) (jfr1 hr_9p_0 (by omega)) (by omega) (by omega) (by omega) (by omega) (by omega) (by omega) (by omega) (by omega) (by omega), by omega, by omega, by omega, by omega, by omega, by omega, by omega, by omega, by omega, by omega, by omega, by omega, by omega, ?_⟩; exact Or.inr ⟨by omega, hD9⟩⟩, ⟨hh_27.rt (M1 := [(r0, 4, 4, .int br), (r0, 4, 5, .int 0), (r0, 4, 6, .int (-1)), (r0, 4, 2, .int 0), (r0, 4, 8, .int qg_8), (r0, 4, 9, .int ql_8), (r0, 4, 10, .int qd_8), (r0, 4, 11, .int qv_8), (r0, 4, 7, .int 0), (r0, 4, 1, .int qo_8)]) [10, 1, 4, 2, 6, 7, 8, 9, 3, 5] rfl ht, by rw [ht]; exact hh_27.2.2.2.2.2.2.2.1.sub [0] rfl⟩⟩, by rw [ht]; try exact hh_27.1.1, fun q h9 hq => by rw [ht]; try exact hh_27.1.2.1 q h9 hq⟩) hh_27.1.2.2 dX2_accept_150
            · skip
              have c_17' : fi.toInt < qo_8.toInt := jb_ge_n (rfl) (rfl) c_17
              first | (have hr_9p_11q := hr_9p_11.resolve_left (by omega); clear hr_9p_11) | (have hr_9p_11q := hr_9p_11.resolve_right (by omega); clear hr_9p_11) | skip
              first | (have hr_9p_12q := hr_9p_12.resolve_left (by omega); clear hr_9p_12) | (have hr_9p_12q := hr_9p_12.resolve_right (by omega); clear hr_9p_12) | skip
              first | (have hr_9p_15q := hr_9p_15.resolve_left (by omega); clear hr_9p_15) | (have hr_9p_15q := hr_9p_15.resolve_right (by omega); clear hr_9p_15) | skip
              first | (have hr_9p_16q := hr_9p_16.resolve_left (by omega); clear hr_9p_16) | (have hr_9p_16q := hr_9p_16.resolve_right (by omega); clear hr_9p_16) | skip
              refine lv_iconst (v := 0) hx hb dX2_accept_109 (by decide) ?_
              rw [hQ]
              obtain ⟨v_28, hv_28, hh_29⟩ := hh_12.pin (C := RX2) (T := TX2) (N := 12) hB4 rfl (by decide) hg_r0 (i := 1) (by decide) rfl
              obtain ⟨length_30, rfl, hlolength_30, hhilength_30⟩ := hv_28
              exact W.zret (v := 0) hx hb hr (jb_nz (Or.inl rfl)) (fun t ht hW => ⟨⟨0, (br, qp_8, qo_8, z_11, qg_8, ql_8, qd_8, qv_8, fi, length_30, fb), rfl, ⟨(Or.inl rfl), by (try dsimp only); refine ⟨jfA.hn (by omega) (by omega) (jfr1 hr_9p_0 (by omega)) (by omega) (by omega) (by omega) (by omega), by omega, by omega, by omega, by omega, by omega, by omega, by omega, by omega, by omega, by omega, by omega, by omega, by omega, ?_⟩; exact Or.inr ⟨by omega, hD9⟩⟩, ⟨hh_29.rt (M1 := [(r0, 4, 4, .int br), (r0, 4, 5, .int qp_8), (r0, 4, 6, .int qo_8), (r0, 4, 2, .int z_11), (r0, 4, 8, .int qg_8), (r0, 4, 9, .int ql_8), (r0, 4, 10, .int qd_8), (r0, 4, 11, .int qv_8), (r0, 4, 7, .int fi), (r0, 4, 1, .int length_30)]) [8, 2, 3, 1, 4, 5, 6, 7, 9, 0] rfl ht, by rw [ht]; exact hh_29.2.2.2.2.2.2.2.1.sub [0] rfl⟩⟩, by rw [ht]; try exact hh_29.1.1, fun q h9 hq => by rw [ht]; try exact hh_29.1.2.1 q h9 hq⟩) hh_29.1.2.2 dX2_accept_110
        · skip
          have c_10' : r_9.toInt = 0 := jb_ne_n (rfl) ((by decide)) c_10
          first | (have hr_9p_11q := hr_9p_11.resolve_left (by omega); clear hr_9p_11) | (have hr_9p_11q := hr_9p_11.resolve_right (by omega); clear hr_9p_11) | skip
          first | (have hr_9p_12q := hr_9p_12.resolve_left (by omega); clear hr_9p_12) | (have hr_9p_12q := hr_9p_12.resolve_right (by omega); clear hr_9p_12) | skip
          first | (have hr_9p_15q := hr_9p_15.resolve_left (by omega); clear hr_9p_15) | (have hr_9p_15q := hr_9p_15.resolve_right (by omega); clear hr_9p_15) | skip
          first | (have hr_9p_16q := hr_9p_16.resolve_left (by omega); clear hr_9p_16) | (have hr_9p_16q := hr_9p_16.resolve_right (by omega); clear hr_9p_16) | skip
          refine lv_aload_n hx hb dX2_accept_72 rfl (lv_at hl 0 rfl) ?_
          refine lv_iconst (v := 1) hx hb dX2_accept_73 (by decide) ?_
          refine j7_put hx hb hown hK hh_8 hB hAp hB4 (C := RX2) (T := TX2) (N := 12) rfl (by decide) hg_r0 (i := 4) (by decide) hly_4_4 rfl hlk_22 rfl (ty := .boolean) (v := .int 1) (by decide +kernel) (jb_nz (Or.inr rfl)) (jb_fz (Or.inr rfl)) (⟨_, rfl, (Or.inr rfl)⟩) rfl (L1 := [(r0, 4, 5, .int qp_8), (r0, 4, 6, .int qo_8), (r0, 4, 8, .int qg_8), (r0, 4, 9, .int ql_8), (r0, 4, 10, .int qd_8), (r0, 4, 11, .int qv_8), (r0, 4, 2, .int ke), (r0, 4, 7, .int fi), (r0, 4, 0, .ref bd_)]) [0, 1, 2, 3, 4, 5, 7, 8, 9] rfl rfl rfl dX2_accept_74 (fun H_31 locs_31 hh_31 => ?_)
          clear hh_8
          refine lv_iconst (v := 0) hx hb dX2_accept_77 (by decide) ?_
          rw [hQ]
          obtain ⟨v_32, hv_32, hh_33⟩ := hh_31.pin (C := RX2) (T := TX2) (N := 12) hB4 rfl (by decide) hg_r0 (i := 1) (by decide) rfl
          obtain ⟨length_34, rfl, hlolength_34, hhilength_34⟩ := hv_32
          exact W.zret (v := 0) hx hb hr (jb_nz (Or.inl rfl)) (fun t ht hW => ⟨⟨0, (1, qp_8, qo_8, ke, qg_8, ql_8, qd_8, qv_8, fi, length_34, fb), rfl, ⟨(Or.inl rfl), by (try dsimp only); refine ⟨jfA.xo (by omega) (Or.inr ⟨_, _, _, _, _, _, _, jfr0 hr_9p_0 (by omega)⟩) (by omega) (by omega), by omega, by omega, by omega, by omega, by omega, by omega, by omega, by omega, by omega, by omega, by omega, by omega, by omega, ?_⟩; exact Or.inr ⟨by omega, hD9⟩⟩, ⟨hh_33.rt (M1 := [(r0, 4, 4, .int 1), (r0, 4, 5, .int qp_8), (r0, 4, 6, .int qo_8), (r0, 4, 2, .int ke), (r0, 4, 8, .int qg_8), (r0, 4, 9, .int ql_8), (r0, 4, 10, .int qd_8), (r0, 4, 11, .int qv_8), (r0, 4, 7, .int fi), (r0, 4, 1, .int length_34)]) [1, 2, 3, 8, 4, 5, 6, 7, 9, 0] rfl ht, by rw [ht]; exact hh_33.2.2.2.2.2.2.2.1.sub [0] rfl⟩⟩, by rw [ht]; try exact hh_33.1.1, fun q h9 hq => by rw [ht]; try exact hh_33.1.2.1 q h9 hq⟩) hh_33.1.2.2 dX2_accept_78
    · skip
      have c_2' : pl.toInt = 6 := jb_ne_n (rfl) ((by decide)) c_2
      refine lv_aload_n hx hb dX2_accept_18 rfl (lv_at hl 0 rfl) ?_
      refine j7_read hx hb hown hK (C := RX2) (T := TX2) (N := 12) rfl hly_4_7 hlk_26 (hh.at 8 rfl) dX2_accept_19 ?_
      refine lv_aload_n hx hb dX2_accept_22 rfl (lv_at hl 0 rfl) ?_
      refine j7_read hx hb hown hK (C := RX2) (T := TX2) (N := 12) rfl hly_4_0 hlk_9 (hh.at 9 rfl) dX2_accept_23 ?_
      refine j7_len hx hb hK hh hB100 0 rfl (by decide) hg_bd_ (by omega) dX2_accept_26 (fun z_35 hz_35 => ?_)
      refine lv_icmp_ge (tgt := 41) hx hb dX2_accept_27 (by decide) (fun c_36 => ?_) (fun c_36 => ?_)
      · skip
        have c_36' : fi.toInt ≥ z_35.toInt := jb_ge (rfl) (rfl) c_36
        exact absurd c_36' (by omega)
      · skip
        have c_36' : fi.toInt < z_35.toInt := jb_ge_n (rfl) (rfl) c_36
        refine lv_aload_n hx hb dX2_accept_30 rfl (lv_at hl 0 rfl) ?_
        refine j7_read hx hb hown hK (C := RX2) (T := TX2) (N := 12) rfl hly_4_0 hlk_9 (hh.at 9 rfl) dX2_accept_31 ?_
        refine lv_aload_n hx hb dX2_accept_34 rfl (lv_at hl 0 rfl) ?_
        refine j7_read hx hb hown hK (C := RX2) (T := TX2) (N := 12) rfl hly_4_7 hlk_26 (hh.at 8 rfl) dX2_accept_35 ?_
        refine lv_iload_n hx hb dX2_accept_38 rfl (lv_at hl 1 rfl) ?_
        refine lv_i2b hx hb dX2_accept_39 rfl ?_
        refine lv_topi (fun z_37 ez_37 => ?_)
        refine j7_bastW hx hb hK hh hB hB100 0 rfl (by decide) (by decide) rfl 0 rfl (M1 := []) [] rfl rfl rfl hg_bd_ (x := fi.toInt) (rfl) (by omega) dX2_accept_40 (fun H_38 locs_38 fs_39 hv_38 ho_38 hh_38 => ?_)
        have hv_38 : jSo fs_39 (fi.toInt) = (vp_nar .byte z_37).toInt := by unfold jSo; rw [hv_38]
        clear hh
        refine lv_aload_n hx hb dX2_accept_41 rfl (lv_at hl 0 rfl) ?_
        refine lv_dup hx hb dX2_accept_42 rfl ?_
        refine j7_read hx hb hown hK (C := RX2) (T := TX2) (N := 12) rfl hly_4_7 hlk_26 (hh_38.at 8 rfl) dX2_accept_43 ?_
        refine lv_iconst (v := 1) hx hb dX2_accept_46 (by decide) ?_
        refine lv_iadd hx hb dX2_accept_47 ?_
        refine lv_topi (fun z_40 ez_40 => ?_)
        have hz_40 : z_40.toInt = fi.toInt + 1 := by rw [ez_40]; exact jb_iadd2 (rfl) ((by decide)) (by omega)
        refine j7_put hx hb hown hK hh_38 hB hAp hB4 (C := RX2) (T := TX2) (N := 12) rfl (by decide) hg_r0 (i := 7) (by decide) hly_4_7 rfl hlk_26 rfl (ty := .int) (v := .int z_40) (by decide +kernel) rfl rfl (⟨_, rfl, by omega, by omega⟩) rfl (L1 := [(r0, 4, 4, .int br), (r0, 4, 5, .int pl), (r0, 4, 6, .int to), (r0, 4, 2, .int ke), (r0, 4, 8, .int sg), (r0, 4, 9, .int il), (r0, 4, 10, .int dg), (r0, 4, 11, .int sv), (r0, 4, 0, .ref bd_)]) [0, 1, 2, 3, 4, 5, 6, 7, 9] rfl rfl rfl dX2_accept_48 (fun H_41 locs_41 hh_41 => ?_)
        clear hh_38
        refine lv_goto (tgt := 79) hx hb dX2_accept_51 (by decide) ?_
        refine lv_aload_n hx hb dX2_accept_79 rfl (lv_at hl 0 rfl) ?_
        refine lv_dup hx hb dX2_accept_80 rfl ?_
        refine j7_read hx hb hown hK (C := RX2) (T := TX2) (N := 12) rfl hly_4_2 hlk_29 (hh_41.at 4 rfl) dX2_accept_81 ?_
        refine lv_iconst (v := 1) hx hb dX2_accept_84 (by decide) ?_
        refine lv_iadd hx hb dX2_accept_85 ?_
        refine lv_topi (fun z_42 ez_42 => ?_)
        have hz_42 : z_42.toInt = ke.toInt + 1 := by rw [ez_42]; exact jb_iadd2 (rfl) ((by decide)) (by omega)
        refine j7_put hx hb hown hK hh_41 hB hAp hB4 (C := RX2) (T := TX2) (N := 12) rfl (by decide) hg_r0 (i := 2) (by decide) hly_4_2 rfl hlk_29 rfl (ty := .int) (v := .int z_42) (by decide +kernel) rfl rfl (⟨_, rfl⟩) rfl (L1 := [(r0, 4, 7, .int z_40), (r0, 4, 4, .int br), (r0, 4, 5, .int pl), (r0, 4, 6, .int to), (r0, 4, 8, .int sg), (r0, 4, 9, .int il), (r0, 4, 10, .int dg), (r0, 4, 11, .int sv), (r0, 4, 0, .ref bd_)]) [0, 1, 2, 3, 5, 6, 7, 8, 9] rfl rfl rfl dX2_accept_86 (fun H_43 locs_43 hh_43 => ?_)
        clear hh_41
        refine lv_aload_n hx hb dX2_accept_89 rfl (lv_at hl 0 rfl) ?_
        refine j7_read hx hb hown hK (C := RX2) (T := TX2) (N := 12) rfl hly_4_5 hlk_15 (hh_43.at 3 rfl) dX2_accept_90 ?_
        refine lv_bipush (v := 6) hx hb dX2_accept_93 (by decide) ?_
        refine lv_icmp_ne (tgt := 109) hx hb dX2_accept_95 (by decide) (fun c_44 => ?_) (fun c_44 => ?_)
        · skip
          have c_44' : pl.toInt ≠ 6 := jb_ne (rfl) ((by decide)) c_44
          refine lv_iconst (v := 0) hx hb dX2_accept_109 (by decide) ?_
          rw [hQ]
          obtain ⟨v_45, hv_45, hh_46⟩ := hh_43.pin (C := RX2) (T := TX2) (N := 12) hB4 rfl (by decide) hg_r0 (i := 1) (by decide) rfl
          obtain ⟨length_47, rfl, hlolength_47, hhilength_47⟩ := hv_45
          exact W.zret (v := 0) hx hb hr (jb_nz (Or.inl rfl)) (fun t ht hW => ⟨⟨0, (br, pl, to, z_42, sg, il, dg, sv, z_40, length_47, fs_39), rfl, ⟨(Or.inl rfl), by (try dsimp only); refine ⟨jfA.bn (by omega) (by omega) (by omega) (by omega) (by omega) (by omega) (by omega), by omega, by omega, by omega, by omega, by omega, by omega, by omega, by omega, by omega, by omega, by omega, by omega, by omega, ?_⟩; exact Or.inl ⟨by omega, jfBd.set hD9 (by rw [hv_38, ez_37]; exact jNb _) (by rw [hv_38]; exact jNr _) (by omega) (by omega) (fun j q0 q1 q2 => jst ho_38 j q0 (by omega) (by omega) (by omega))⟩⟩, ⟨hh_46.rt (M1 := [(r0, 4, 4, .int br), (r0, 4, 5, .int pl), (r0, 4, 6, .int to), (r0, 4, 2, .int z_42), (r0, 4, 8, .int sg), (r0, 4, 9, .int il), (r0, 4, 10, .int dg), (r0, 4, 11, .int sv), (r0, 4, 7, .int z_40), (r0, 4, 1, .int length_47)]) [3, 4, 5, 1, 6, 7, 8, 9, 2, 0] rfl ht, by rw [ht]; exact hh_46.2.2.2.2.2.2.2.1.sub [0] rfl⟩⟩, by rw [ht]; try exact hh_46.1.1, fun q h9 hq => by rw [ht]; try exact hh_46.1.2.1 q h9 hq⟩) hh_46.1.2.2 dX2_accept_110
        · skip
          have c_44' : pl.toInt = 6 := jb_ne_n (rfl) ((by decide)) c_44
          refine lv_aload_n hx hb dX2_accept_98 rfl (lv_at hl 0 rfl) ?_
          refine j7_read hx hb hown hK (C := RX2) (T := TX2) (N := 12) rfl hly_4_7 hlk_26 (hh_43.at 1 rfl) dX2_accept_99 ?_
          refine lv_aload_n hx hb dX2_accept_102 rfl (lv_at hl 0 rfl) ?_
          refine j7_read hx hb hown hK (C := RX2) (T := TX2) (N := 12) rfl hly_4_6 hlk_19 (hh_43.at 4 rfl) dX2_accept_103 ?_
          refine lv_icmp_ge (tgt := 111) hx hb dX2_accept_106 (by decide) (fun c_48 => ?_) (fun c_48 => ?_)
          · skip
            have c_48' : z_40.toInt ≥ to.toInt := jb_ge (rfl) (rfl) c_48
            refine lv_aload_n hx hb dX2_accept_111 rfl (lv_at hl 0 rfl) ?_
            refine lv_aload_n hx hb dX2_accept_112 rfl (lv_at hl 0 rfl) ?_
            refine j7_read hx hb hown hK (C := RX2) (T := TX2) (N := 12) rfl hly_4_6 hlk_19 (hh_43.at 4 rfl) dX2_accept_113 ?_
            refine j7_put hx hb hown hK hh_43 hB hAp hB4 (C := RX2) (T := TX2) (N := 12) rfl (by decide) hg_r0 (i := 1) (by decide) hly_4_1 rfl hlk_36 rfl (ty := .int) (v := .int to) (by decide +kernel) rfl rfl (⟨_, rfl, by omega, by omega⟩) rfl (L1 := [(r0, 4, 2, .int z_42), (r0, 4, 7, .int z_40), (r0, 4, 4, .int br), (r0, 4, 5, .int pl), (r0, 4, 6, .int to), (r0, 4, 8, .int sg), (r0, 4, 9, .int il), (r0, 4, 10, .int dg), (r0, 4, 11, .int sv), (r0, 4, 0, .ref bd_)]) [0, 1, 2, 3, 4, 5, 6, 7, 8, 9] rfl rfl rfl dX2_accept_116 (fun H_49 locs_49 hh_49 => ?_)
            clear hh_43
            refine lv_aload_n hx hb dX2_accept_119 rfl (lv_at hl 0 rfl) ?_
            refine lv_iconst (v := (-1)) hx hb dX2_accept_120 (by decide) ?_
            refine j7_put hx hb hown hK hh_49 hB hAp hB4 (C := RX2) (T := TX2) (N := 12) rfl (by decide) hg_r0 (i := 6) (by decide) hly_4_6 rfl hlk_19 rfl (ty := .int) (v := .int (-1)) (by decide +kernel) rfl rfl (⟨_, rfl, by omega, by omega⟩) rfl (L1 := [(r0, 4, 1, .int to), (r0, 4, 2, .int z_42), (r0, 4, 7, .int z_40), (r0, 4, 4, .int br), (r0, 4, 5, .int pl), (r0, 4, 8, .int sg), (r0, 4, 9, .int il), (r0, 4, 10, .int dg), (r0, 4, 11, .int sv), (r0, 4, 0, .ref bd_)]) [0, 1, 2, 3, 4, 6, 7, 8, 9, 10] rfl rfl rfl dX2_accept_121 (fun H_50 locs_50 hh_50 => ?_)
            clear hh_49
            refine lv_aload_n hx hb dX2_accept_124 rfl (lv_at hl 0 rfl) ?_
            refine lv_iconst (v := 0) hx hb dX2_accept_125 (by decide) ?_
            refine j7_put hx hb hown hK hh_50 hB hAp hB4 (C := RX2) (T := TX2) (N := 12) rfl (by decide) hg_r0 (i := 7) (by decide) hly_4_7 rfl hlk_26 rfl (ty := .int) (v := .int 0) (by decide +kernel) rfl rfl (⟨_, rfl, by omega, by omega⟩) rfl (L1 := [(r0, 4, 6, .int (-1)), (r0, 4, 1, .int to), (r0, 4, 2, .int z_42), (r0, 4, 4, .int br), (r0, 4, 5, .int pl), (r0, 4, 8, .int sg), (r0, 4, 9, .int il), (r0, 4, 10, .int dg), (r0, 4, 11, .int sv), (r0, 4, 0, .ref bd_)]) [0, 1, 2, 4, 5, 6, 7, 8, 9, 10] rfl rfl rfl dX2_accept_126 (fun H_51 locs_51 hh_51 => ?_)
            clear hh_50
            refine lv_aload_n hx hb dX2_accept_129 rfl (lv_at hl 0 rfl) ?_
            refine lv_iconst (v := 0) hx hb dX2_accept_130 (by decide) ?_
            refine j7_put hx hb hown hK hh_51 hB hAp hB4 (C := RX2) (T := TX2) (N := 12) rfl (by decide) hg_r0 (i := 2) (by decide) hly_4_2 rfl hlk_29 rfl (ty := .int) (v := .int 0) (by decide +kernel) rfl rfl (⟨_, rfl⟩) rfl (L1 := [(r0, 4, 7, .int 0), (r0, 4, 6, .int (-1)), (r0, 4, 1, .int to), (r0, 4, 4, .int br), (r0, 4, 5, .int pl), (r0, 4, 8, .int sg), (r0, 4, 9, .int il), (r0, 4, 10, .int dg), (r0, 4, 11, .int sv), (r0, 4, 0, .ref bd_)]) [0, 1, 2, 4, 5, 6, 7, 8, 9, 10] rfl rfl rfl dX2_accept_131 (fun H_52 locs_52 hh_52 => ?_)
            clear hh_51
            refine lv_aload_n hx hb dX2_accept_134 rfl (lv_at hl 0 rfl) ?_
            refine lv_iconst (v := 0) hx hb dX2_accept_135 (by decide) ?_
            refine j7_put hx hb hown hK hh_52 hB hAp hB4 (C := RX2) (T := TX2) (N := 12) rfl (by decide) hg_r0 (i := 5) (by decide) hly_4_5 rfl hlk_15 rfl (ty := .int) (v := .int 0) (by decide +kernel) rfl rfl (⟨_, rfl⟩) rfl (L1 := [(r0, 4, 2, .int 0), (r0, 4, 7, .int 0), (r0, 4, 6, .int (-1)), (r0, 4, 1, .int to), (r0, 4, 4, .int br), (r0, 4, 8, .int sg), (r0, 4, 9, .int il), (r0, 4, 10, .int dg), (r0, 4, 11, .int sv), (r0, 4, 0, .ref bd_)]) [0, 1, 2, 3, 4, 6, 7, 8, 9, 10] rfl rfl rfl dX2_accept_136 (fun H_53 locs_53 hh_53 => ?_)
            clear hh_52
            refine lv_aload_n hx hb dX2_accept_139 rfl (lv_at hl 0 rfl) ?_
            refine lv_dup hx hb dX2_accept_140 rfl ?_
            obtain ⟨v_54, hv_54, hh_55⟩ := hh_53.pin (C := RX2) (T := TX2) (N := 12) hB4 rfl (by decide) hg_r0 (i := 3) (by decide) rfl
            clear hh_53
            obtain ⟨messages_56, rfl⟩ := hv_54
            refine j7_read hx hb hown hK (C := RX2) (T := TX2) (N := 12) rfl hly_4_3 hlk_39 (hh_55.at 0 rfl) dX2_accept_141 ?_
            refine lv_iconst (v := 1) hx hb dX2_accept_144 (by decide) ?_
            refine lv_iadd hx hb dX2_accept_145 ?_
            refine lv_topi (fun z_57 ez_57 => ?_)
            refine j7_put hx hb hown hK hh_55 hB hAp hB4 (C := RX2) (T := TX2) (N := 12) rfl (by decide) hg_r0 (i := 3) (by decide) hly_4_3 rfl hlk_39 rfl (ty := .int) (v := .int z_57) (by decide +kernel) rfl rfl (⟨_, rfl⟩) rfl (L1 := [(r0, 4, 5, .int 0), (r0, 4, 2, .int 0), (r0, 4, 7, .int 0), (r0, 4, 6, .int (-1)), (r0, 4, 1, .int to), (r0, 4, 4, .int br), (r0, 4, 8, .int sg), (r0, 4, 9, .int il), (r0, 4, 10, .int dg), (r0, 4, 11, .int sv), (r0, 4, 0, .ref bd_)]) [1, 2, 3, 4, 5, 6, 7, 8, 9, 10, 11] rfl rfl rfl dX2_accept_146 (fun H_58 locs_58 hh_58 => ?_)
            clear hh_55
            refine lv_iconst (v := 1) hx hb dX2_accept_149 (by decide) ?_
            rw [hQ]
            exact W.zret (v := 1) hx hb hr (jb_nz (Or.inr rfl)) (fun t ht hW => ⟨⟨1, (br, 0, (-1), 0, sg, il, dg, sv, 0, to, fs_39), rfl, ⟨(Or.inr rfl), by (try dsimp only); refine ⟨jfA.by (by omega) (by omega) (by omega) (by omega) (by omega) (by omega) (by omega) (by omega) (by omega), by omega, by omega, by omega, by omega, by omega, by omega, by omega, by omega, by omega, by omega, by omega, by omega, by omega, ?_⟩; exact Or.inl ⟨by omega, jfBd.set hD9 (by rw [hv_38, ez_37]; exact jNb _) (by rw [hv_38]; exact jNr _) (by omega) (by omega) (fun j q0 q1 q2 => jst ho_38 j q0 (by omega) (by omega) (by omega))⟩⟩, ⟨hh_58.rt (M1 := [(r0, 4, 4, .int br), (r0, 4, 5, .int 0), (r0, 4, 6, .int (-1)), (r0, 4, 2, .int 0), (r0, 4, 8, .int sg), (r0, 4, 9, .int il), (r0, 4, 10, .int dg), (r0, 4, 11, .int sv), (r0, 4, 7, .int 0), (r0, 4, 1, .int to)]) [6, 1, 4, 2, 7, 8, 9, 10, 3, 5] rfl ht, by rw [ht]; exact hh_58.2.2.2.2.2.2.2.1.sub [0] rfl⟩⟩, by rw [ht]; try exact hh_58.1.1, fun q h9 hq => by rw [ht]; try exact hh_58.1.2.1 q h9 hq⟩) hh_58.1.2.2 dX2_accept_150
          · skip
            have c_48' : z_40.toInt < to.toInt := jb_ge_n (rfl) (rfl) c_48
            refine lv_iconst (v := 0) hx hb dX2_accept_109 (by decide) ?_
            rw [hQ]
            obtain ⟨v_59, hv_59, hh_60⟩ := hh_43.pin (C := RX2) (T := TX2) (N := 12) hB4 rfl (by decide) hg_r0 (i := 1) (by decide) rfl
            obtain ⟨length_61, rfl, hlolength_61, hhilength_61⟩ := hv_59
            exact W.zret (v := 0) hx hb hr (jb_nz (Or.inl rfl)) (fun t ht hW => ⟨⟨0, (br, pl, to, z_42, sg, il, dg, sv, z_40, length_61, fs_39), rfl, ⟨(Or.inl rfl), by (try dsimp only); refine ⟨jfA.bn (by omega) (by omega) (by omega) (by omega) (by omega) (by omega) (by omega), by omega, by omega, by omega, by omega, by omega, by omega, by omega, by omega, by omega, by omega, by omega, by omega, by omega, ?_⟩; exact Or.inl ⟨by omega, jfBd.set hD9 (by rw [hv_38, ez_37]; exact jNb _) (by rw [hv_38]; exact jNr _) (by omega) (by omega) (fun j q0 q1 q2 => jst ho_38 j q0 (by omega) (by omega) (by omega))⟩⟩, ⟨hh_60.rt (M1 := [(r0, 4, 4, .int br), (r0, 4, 5, .int pl), (r0, 4, 6, .int to), (r0, 4, 2, .int z_42), (r0, 4, 8, .int sg), (r0, 4, 9, .int il), (r0, 4, 10, .int dg), (r0, 4, 11, .int sv), (r0, 4, 7, .int z_40), (r0, 4, 1, .int length_61)]) [3, 4, 5, 1, 6, 7, 8, 9, 2, 0] rfl ht, by rw [ht]; exact hh_60.2.2.2.2.2.2.2.1.sub [0] rfl⟩⟩, by rw [ht]; try exact hh_60.1.1, fun q h9 hq => by rw [ht]; try exact hh_60.1.2.1 q h9 hq⟩) hh_60.1.2.2 dX2_accept_110
  · skip
    have c_1' : br.toInt ≠ 0 := jb_eq_n (rfl) ((by decide)) c_1
    exact absurd c_1' (by omega)
end
