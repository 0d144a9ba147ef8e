section
def EX1_sentenceBeginP : List (Nat × Nat) := []
def EX1_sentenceEndP : List (Nat × Nat) := []
def EX1_partP : List (Nat × Nat) := [(3, 4), (8, 3), (12, 3), (101, 0), (102, 0), (132, 0), (133, 0), (171, 0), (172, 0), (293, 0)]
def EX11_opensCommentPt9 : List (Nat × Nat) := []
def EX11_commentEndPt9 : List (Nat × Nat) := []
set_option maxHeartbeats 4000000 in
set_option maxRecDepth 20000 in
theorem uX11_opensCommentPt9 (l : Launch) (dC : Nat → ClassId) (dI : Nat → Nat → Nat) (ca : Nat → ClassId) (base : Nat) (B : jF) (hB : jBok B) (hAp : jAp (dC, dI)) (hB173 : ∀ n G a H, B 173 n G a H ↔ jAr (dC, dI) (ca 1) (fun j z => True) n a H) (G0 : jT) (H0 : Heap) (r0 : Nat) (a1 : Int32) (a2 : Int32) (n0 : Nat) (f0 : Nat → Int32) : Met l yX11_opensComment (jw yX11_opensComment cX11_opensComment 3 (some .boolean)) ({ frames := 0, cells := 0, slots := 0, locals := 0 }) (va_Pc [.ref r0, .int a1, .int a2] (fun U => U.heap = H0 ∧ jX B base G0 [] H0 ∧ jG dC dI ca base U ∧ G0 r0 = some (173, n0) ∧ jP (dC, dI) G0 H0 [] ∧ jMc (dC, dI) G0 H0 [(r0, 173, n0, ca 1, f0)] ∧ 0 ≤ a1.toInt ∧ a1.toInt ≤ 1000000 ∧ a2.toInt ≤ n0 ∧ n0 < 1000000)) (va_Qi (S := Unit) (fun r u => (r = 0 ∨ r = 1) ∧ (r.toInt = jOpI f0 a1.toInt a2.toInt ∧ (r.toInt = 0 ∨ a1.toInt + 2 ≤ a2.toInt))) (fun u t => jRt (dC, dI) B base G0 EX11_opensCommentPt9 H0 [] t.heap) (jA base)) 0 0 (jA base) := by
  refine Met.ofW (cc := cX11_opensComment) (maxL := 3) (ret := (some .boolean)) (by decide) rfl ?_
  intro p e s m args below meth c s₁ Bd hml hv
  obtain ⟨rfl, hH0, hX, hG, hg_r0, hP0, hM0, hp0, hp1, hp2, hp3⟩ := hv
  have hK := hG.1
  have hx := Bd.exec
  have hb := Bd.bytes
  have hr := Bd.returns
  have hts := atoms_spec (ws := (jw yX11_opensComment cX11_opensComment 3 (some .boolean))) Bd.pre
  have htw : ∀ w ∈ jWl, w.before _ s = true := fun w h => hts w (List.mem_cons_of_mem _ h)
  have hown : s.vm.findClass RX11 = some m.cls := findClass_of_methodNamed Bd.named
  have hlocks := Bd.notSynchronized
  obtain ⟨Q, hQ⟩ : ∃ Q, Q = MQ below (va_Qi (S := Unit) (fun r u => (r = 0 ∨ r = 1) ∧ (r.toInt = jOpI f0 a1.toInt a2.toInt ∧ (r.toInt = 0 ∨ a1.toInt + 2 ≤ a2.toInt))) (fun u t => jRt (dC, dI) B base G0 EX11_opensCommentPt9 H0 [] t.heap) (jA base)) ([.ref r0, .int a1, .int a2] : List Value).toArray s 0 0 (jA base) := ⟨_, rfl⟩
  rw [← hQ]
  have hl := lv_entry ([.ref r0, .int a1, .int a2]) (n := 3) (Nat.le_of_ble_eq_true rfl)
  rw [lg_entry_eq]
  generalize (lg_sl ([.ref r0, .int a1, .int a2]) ++ List.replicate (3 - (lg_sl ([.ref r0, .int a1, .int a2])).length) Slot.unset).toArray = ls at hl ⊢
  have hl : lv_has ls 3 [(0, .ref r0), (1, .int a1), (2, .int a2)] := hl
  generalize hR : (headSpec (jw yX11_opensComment cX11_opensComment 3 (some .boolean)) ({ frames := 0, cells := 0, slots := 0, locals := 0 })).room = R
  subst hH0
  have hh : jSt (dC, dI) B base G0 G0 EX11_opensCommentPt9 s.heap 0 0 [] [(r0, 173, n0, ca 1, f0)] [] s.heap [] := jSt.start hX hP0 hM0 jIs.nil
  clear hX hP0
  have hk0 : (0 : Int32).toInt = 0 := by decide
  have hk1 : (1 : Int32).toInt = 1 := by decide
  have hk40 : (40 : Int32).toInt = 40 := by decide
  have hk42 : (42 : Int32).toInt = 42 := by decide
  have hrg_a1 := jb_rng a1
  have hrg_a2 := jb_rng a2
  refine lv_iload_n hx hb dX11_opensComment_0 rfl (lv_at hl 1 rfl) ?_
  refine lv_if_lt (tgt := 39) hx hb dX11_opensComment_1 (by decide) (fun c_1 => ?_) (fun c_1 => ?_)
  · skip
    have c_1' : a1.toInt < 0 := jb_lt (rfl) ((by decide)) c_1
    exact absurd c_1' (by omega)
  · skip
    have c_1' : a1.toInt ≥ 0 := jb_lt_n (rfl) ((by decide)) c_1
    refine lv_iload_n hx hb dX11_opensComment_4 rfl (lv_at hl 1 rfl) ?_
    refine lv_iconst (v := 1) hx hb dX11_opensComment_5 (by decide) ?_
    refine lv_iadd hx hb dX11_opensComment_6 ?_
    refine lv_topi (fun z_2 ez_2 => ?_)
    have hz_2 : z_2.toInt = a1.toInt + 1 := by rw [ez_2]; exact jb_iadd2 (rfl) ((by decide)) (by omega)
    refine lv_iload_n hx hb dX11_opensComment_7 rfl (lv_at hl 2 rfl) ?_
    refine lv_icmp_ge (tgt := 39) hx hb dX11_opensComment_8 (by decide) (fun c_3 => ?_) (fun c_3 => ?_)
    · skip
      have c_3' : z_2.toInt ≥ a2.toInt := jb_ge (rfl) (rfl) c_3
      refine lv_iconst (v := 0) hx hb dX11_opensComment_39 (by decide) ?_
      rw [hQ]
      exact W.zret (v := 0) hx hb hr (jb_nz (Or.inl rfl)) (fun t ht hW => ⟨⟨0, (), rfl, ⟨(Or.inl rfl), by refine ⟨by unfold jOpI; first | (rw [if_pos (by omega)]; decide) | (rw [if_neg (by omega)]; decide), by omega⟩⟩, hh.rt (M1 := []) [] rfl ht⟩, by rw [ht]; try exact hh.1.1, fun q h9 hq => by rw [ht]; try exact hh.1.2.1 q h9 hq⟩) hh.1.2.2 dX11_opensComment_40
    · skip
      have c_3' : z_2.toInt < a2.toInt := jb_ge_n (rfl) (rfl) c_3
      refine lv_iload_n hx hb dX11_opensComment_11 rfl (lv_at hl 2 rfl) ?_
      refine lv_aload_n hx hb dX11_opensComment_12 rfl (lv_at hl 0 rfl) ?_
      refine j7_len hx hb hK hh hB173 1 rfl (by decide) hg_r0 (by omega) dX11_opensComment_13 (fun z_4 hz_4 => ?_)
      refine lv_icmp_gt (tgt := 39) hx hb dX11_opensComment_14 (by decide) (fun c_5 => ?_) (fun c_5 => ?_)
      · skip
        have c_5' : a2.toInt > z_4.toInt := jb_gt (rfl) (rfl) c_5
        exact absurd c_5' (by omega)
      · skip
        have c_5' : a2.toInt ≤ z_4.toInt := jb_gt_n (rfl) (rfl) c_5
        refine lv_aload_n hx hb dX11_opensComment_17 rfl (lv_at hl 0 rfl) ?_
        refine lv_iload_n hx hb dX11_opensComment_18 rfl (lv_at hl 1 rfl) ?_
        refine j7_ialdM hx hb hK hh hB173 1 rfl (by decide) hg_r0 (x := a1.toInt) (rfl) (by omega) (j := 0) rfl dX11_opensComment_19 (fun z_6 ez_6 (hz_6 : True) => ?_)
        have hqz_6 : z_6.toInt = (f0 (a1.toInt).toNat).toInt := by rw [ez_6]
        refine lv_bipush (v := 40) hx hb dX11_opensComment_20 (by decide) ?_
        refine lv_icmp_ne (tgt := 39) hx hb dX11_opensComment_22 (by decide) (fun c_7 => ?_) (fun c_7 => ?_)
        · skip
          have c_7' : z_6.toInt ≠ 40 := jb_ne (rfl) ((by decide)) c_7
          refine lv_iconst (v := 0) hx hb dX11_opensComment_39 (by decide) ?_
          rw [hQ]
          exact W.zret (v := 0) hx hb hr (jb_nz (Or.inl rfl)) (fun t ht hW => ⟨⟨0, (), rfl, ⟨(Or.inl rfl), by refine ⟨by unfold jOpI; first | (rw [if_pos (by omega)]; decide) | (rw [if_neg (by omega)]; decide), by omega⟩⟩, hh.rt (M1 := []) [] rfl ht⟩, by rw [ht]; try exact hh.1.1, fun q h9 hq => by rw [ht]; try exact hh.1.2.1 q h9 hq⟩) hh.1.2.2 dX11_opensComment_40
        · skip
          have c_7' : z_6.toInt = 40 := jb_ne_n (rfl) ((by decide)) c_7
          refine lv_aload_n hx hb dX11_opensComment_25 rfl (lv_at hl 0 rfl) ?_
          refine lv_iload_n hx hb dX11_opensComment_26 rfl (lv_at hl 1 rfl) ?_
          refine lv_iconst (v := 1) hx hb dX11_opensComment_27 (by decide) ?_
          refine lv_iadd hx hb dX11_opensComment_28 ?_
          refine lv_topi (fun z_8 ez_8 => ?_)
          have hz_8 : z_8.toInt = a1.toInt + 1 := by rw [ez_8]; exact jb_iadd2 (rfl) ((by decide)) (by omega)
          refine j7_ialdM hx hb hK hh hB173 1 rfl (by decide) hg_r0 (x := z_8.toInt) (rfl) (by omega) (j := 0) rfl dX11_opensComment_29 (fun z_9 ez_9 (hz_9 : True) => ?_)
          have hqz_9 : z_9.toInt = (f0 ((a1.toInt + 1)).toNat).toInt := by rw [ez_9, show z_8.toInt = (a1.toInt + 1) by omega]
          first | have hqz_9_10 : z_9.toInt = (f0 (a1.toInt).toNat).toInt := by rw [ez_9, show z_8.toInt = a1.toInt by omega] | skip
          refine lv_bipush (v := 42) hx hb dX11_opensComment_30 (by decide) ?_
          refine lv_icmp_ne (tgt := 39) hx hb dX11_opensComment_32 (by decide) (fun c_11 => ?_) (fun c_11 => ?_)
          · skip
            have c_11' : z_9.toInt ≠ 42 := jb_ne (rfl) ((by decide)) c_11
            refine lv_iconst (v := 0) hx hb dX11_opensComment_39 (by decide) ?_
            rw [hQ]
            exact W.zret (v := 0) hx hb hr (jb_nz (Or.inl rfl)) (fun t ht hW => ⟨⟨0, (), rfl, ⟨(Or.inl rfl), by refine ⟨by unfold jOpI; first | (rw [if_pos (by omega)]; decide) | (rw [if_neg (by omega)]; decide), by omega⟩⟩, hh.rt (M1 := []) [] rfl ht⟩, by rw [ht]; try exact hh.1.1, fun q h9 hq => by rw [ht]; try exact hh.1.2.1 q h9 hq⟩) hh.1.2.2 dX11_opensComment_40
          · skip
            have c_11' : z_9.toInt = 42 := jb_ne_n (rfl) ((by decide)) c_11
            refine lv_iconst (v := 1) hx hb dX11_opensComment_35 (by decide) ?_
            refine lv_goto (tgt := 40) hx hb dX11_opensComment_36 (by decide) ?_
            rw [hQ]
            exact W.zret (v := 1) hx hb hr (jb_nz (Or.inr rfl)) (fun t ht hW => ⟨⟨1, (), rfl, ⟨(Or.inr rfl), by refine ⟨by unfold jOpI; first | (rw [if_pos (by omega)]; decide) | (rw [if_neg (by omega)]; decide), by omega⟩⟩, hh.rt (M1 := []) [] rfl ht⟩, by rw [ht]; try exact hh.1.1, fun q h9 hq => by rw [ht]; try exact hh.1.2.1 q h9 hq⟩) hh.1.2.2 dX11_opensComment_40
set_option maxHeartbeats 4000000 in
set_option maxRecDepth 20000 in
theorem uX11_commentEndPt9 (l : Launch) (dC : Nat → ClassId) (dI : Nat → Nat → Nat) (ca : Nat → ClassId) (base : Nat) (B : jF) (hB : jBok B) (hAp : jAp (dC, dI)) (hB101 : ∀ n G a H, B 101 n G a H ↔ jAr (dC, dI) (ca 1) (fun j z => True) n a H) (hB173 : ∀ n G a H, B 173 n G a H ↔ jAr (dC, dI) (ca 1) (fun j z => True) n a H) (G0 : jT) (H0 : Heap) (r0 : Nat) (a1 : Int32) (a2 : Int32) (n0 : Nat) (f0 : Nat → Int32) : Met l yX11_commentEnd (jw yX11_commentEnd cX11_commentEnd 5 (some .int)) ({ frames := 1, cells := 0, slots := 0, locals := 22 }) (va_Pc [.ref r0, .int a1, .int a2] (fun U => U.heap = H0 ∧ jX B base G0 [] H0 ∧ jG dC dI ca base U ∧ G0 r0 = some (173, n0) ∧ jP (dC, dI) G0 H0 [] ∧ jMc (dC, dI) G0 H0 [(r0, 173, n0, ca 1, f0)] ∧ 0 ≤ a1.toInt ∧ a1.toInt ≤ a2.toInt ∧ a2.toInt ≤ n0 ∧ n0 < 1000000)) (va_Qi (S := Unit) (fun r u => (r.toInt = jCe f0 a2.toInt a1.toInt ∧ (r.toInt = -1 ∨ (a1.toInt + 4 ≤ r.toInt ∧ r.toInt ≤ a2.toInt)))) (fun u t => jRt (dC, dI) B base G0 EX11_commentEndPt9 H0 [] t.heap) (jA base)) 0 0 (jA base) := by
  refine Met.ofW (cc := cX11_commentEnd) (maxL := 5) (ret := (some .int)) (by decide) rfl ?_
  intro p e s m args below meth c s₁ Bd hml hv
  obtain ⟨rfl, hH0, hX, hG, hg_r0, hP0, hM0, hp0, hp1, hp2, hp3⟩ := hv
  have hK := hG.1
  have hx := Bd.exec
  have hb := Bd.bytes
  have hr := Bd.returns
  have hts := atoms_spec (ws := (jw yX11_commentEnd cX11_commentEnd 5 (some .int))) Bd.pre
  have htw : ∀ w ∈ jWl, w.before _ s = true := fun w h => hts w (List.mem_cons_of_mem _ h)
  have hown : s.vm.findClass RX11 = some m.cls := findClass_of_methodNamed Bd.named
  have hlocks := Bd.notSynchronized
  obtain ⟨Q, hQ⟩ : ∃ Q, Q = MQ below (va_Qi (S := Unit) (fun r u => (r.toInt = jCe f0 a2.toInt a1.toInt ∧ (r.toInt = -1 ∨ (a1.toInt + 4 ≤ r.toInt ∧ r.toInt ≤ a2.toInt)))) (fun u t => jRt (dC, dI) B base G0 EX11_commentEndPt9 H0 [] t.heap) (jA base)) ([.ref r0, .int a1, .int a2] : List Value).toArray s 0 0 (jA base) := ⟨_, rfl⟩
  rw [← hQ]
  have hl := lv_entry ([.ref r0, .int a1, .int a2]) (n := 5) (Nat.le_of_ble_eq_true rfl)
  rw [lg_entry_eq]
  generalize (lg_sl ([.ref r0, .int a1, .int a2]) ++ List.replicate (5 - (lg_sl ([.ref r0, .int a1, .int a2])).length) Slot.unset).toArray = ls at hl ⊢
  have hl : lv_has ls 5 [(0, .ref r0), (1, .int a1), (2, .int a2)] := hl
  generalize hR : (headSpec (jw yX11_commentEnd cX11_commentEnd 5 (some .int)) ({ frames := 1, cells := 0, slots := 0, locals := 22 })).room = R
  subst hH0
  have hh : jSt (dC, dI) B base G0 G0 EX11_commentEndPt9 s.heap 0 0 [] [(r0, 173, n0, ca 1, f0)] [] s.heap [] := jSt.start hX hP0 hM0 jIs.nil
  clear hX hP0
  have hkm1 : ((-1) : Int32).toInt = (-1) := by decide
  have hk0 : (0 : Int32).toInt = 0 := by decide
  have hk1 : (1 : Int32).toInt = 1 := by decide
  have hk2 : (2 : Int32).toInt = 2 := by decide
  have hk40 : (40 : Int32).toInt = 40 := by decide
  have hk41 : (41 : Int32).toInt = 41 := by decide
  have hk42 : (42 : Int32).toInt = 42 := by decide
  have hrg_a1 := jb_rng a1
  have hrg_a2 := jb_rng a2
  refine lv_aload_n hx hb dX11_commentEnd_0 rfl (lv_at hl 0 rfl) ?_
  refine lv_iload_n hx hb dX11_commentEnd_1 rfl (lv_at hl 1 rfl) ?_
  refine lv_iload_n hx hb dX11_commentEnd_2 rfl (lv_at hl 2 rfl) ?_
  refine va_calli (A0 := jA base) (H0 := s.heap) (va_runS (As := [.ref r0, .int a1, .int a2]) (rest := []) ⟨hx, hb, hml, hown, hts⟩ (uX11_opensCommentPt9 l dC dI ca base B hB hAp hB173 G0 s.heap r0 a1 a2 n0 f0) (va_cwS 3 hts (jgS (jWr_36 _ (List.mem_of_getElem? (i := 12) rfl)) (jWr_36 _ (List.mem_of_getElem? (i := 13) rfl)) (jWr_1 _ (List.mem_of_getElem? (i := 2) rfl)) (jWr_36 _ (List.mem_of_getElem? (i := 14) rfl))) rfl rfl rfl (by decide +kernel) ⟨by rw [← hR]; exact Nat.le_of_ble_eq_true rfl, by rw [← hR]; exact Nat.le_of_ble_eq_true rfl⟩) ⟨fun a U g mk q => by obtain ⟨q0, q1, q2, qK, q10, q11, q12, q13⟩ := q; exact ⟨q0, q1, q2, jG.calling g mk a qK, q10, q11, q12, q13⟩, fun U hU hW => ⟨rfl, hU, hh.2.1, hG.step hW hU hh.1, hg_r0, jP.nil, (hh.2.2.2.2.2.2.2.1.sub (L1 := [(r0, 173, n0, ca 1, f0)]) [0] rfl), by first | omega | (refine ⟨?_, ?_, ?_, ?_⟩ <;> (first | omega | rfl | assumption | decide | exact Or.inl rfl | exact Or.inr rfl | (simp only; omega)))⟩⟩ rfl rfl hl.1 rfl (lv_room (Nat.le_of_ble_eq_true rfl)) dX11_commentEnd_3 ⟨Nat.zero_le _, Nat.zero_le _⟩) hh.1 (fun q _ h => h) (fun q h => h) (fun r_2 u_1 t_1 H_1 locs_1 ht_1 hvm_1 hr_2 hb_1 hz_1 hk_1 hS_1 => ?_)
  rw [ht_1] at hb_1
  obtain ⟨hb_11, hb_12, hb_13, hb_14, hb_15⟩ := hb_1
  have hh_1 : jSt (dC, dI) B base G0 G0 EX11_commentEndPt9 s.heap 0 0 [] [(r0, 173, n0, ca 1, f0)] [] H_1 locs_1 := ((hh.call hb_11 hb_12 hb_13 hb_14 hS_1 rfl (L1 := []) [] rfl rfl (M1 := [(r0, 173, n0, ca 1, f0)]) [0] rfl rfl (I1 := []) [] rfl rfl).more hb_15)
  clear hh ht_1 hvm_1 hz_1 hk_1 hS_1 hb_11 hb_12 hb_13 hb_14 hb_15
  obtain ⟨hr_2b, hr_2p⟩ := hr_2
  obtain ⟨hr_2p_0, hr_2p_1⟩ := hr_2p
  have hr_2' := jb_01 hr_2b
  refine lv_if_ne (tgt := 11) hx hb dX11_commentEnd_6 (by decide) (fun c_3 => ?_) (fun c_3 => ?_)
  · skip
    have c_3' : r_2.toInt ≠ 0 := jb_ne (rfl) ((by decide)) c_3
    first | (have hr_2p_1q := hr_2p_1.resolve_left (by omega); clear hr_2p_1) | (have hr_2p_1q := hr_2p_1.resolve_right (by omega); clear hr_2p_1) | try clear hr_2p_1
    refine lv_iconst (v := 1) hx hb dX11_commentEnd_11 (by decide) ?_
    refine lv_istore_n (lv' := [(3, .int 1), (0, .ref r0), (1, .int a1), (2, .int a2)]) hx hb dX11_commentEnd_12 rfl hl (by decide) rfl (fun ls hl => ?_)
    refine lv_iload_n hx hb dX11_commentEnd_13 rfl (lv_at hl 2 rfl) ?_
    refine lv_iconst (v := 2) hx hb dX11_commentEnd_14 (by decide) ?_
    refine lv_iadd hx hb dX11_commentEnd_15 ?_
    refine lv_topi (fun z_4 ez_4 => ?_)
    have hz_4 : z_4.toInt = a1.toInt + 2 := by rw [ez_4]; exact jb_iadd2 (rfl) ((by decide)) (by omega)
    refine lv_istore (lv' := [(4, .int z_4), (3, .int 1), (0, .ref r0), (1, .int a1), (2, .int a2)]) hx hb dX11_commentEnd_16 hl (by decide) rfl (fun ls hl => ?_)
    have L18 : ∀ (N : Nat) (v3_5 : Int32) (v4_5 : Int32) (kf : Nat) (H_5 : Heap) (locs_5 : List Loc), jSt (dC, dI) B base G0 G0 EX11_commentEndPt9 s.heap 0 0 [] [(r0, 173, n0, ca 1, f0)] [] H_5 locs_5 → (a1.toInt + 2 ≤ v4_5.toInt ∧ v4_5.toInt ≤ a2.toInt ∧ 1 ≤ v3_5.toInt ∧ v3_5.toInt ≤ v4_5.toInt ∧ a2.toInt - v4_5.toInt < kf ∧ jBc f0 a2.toInt kf v4_5.toInt v3_5.toInt = jBcc f0 a2.toInt a1.toInt) → (a2.toInt - v4_5.toInt : Int) < N → ∀ ls : Array Slot, lv_has ls 5 [(0, .ref r0), (1, .int a1), (2, .int a2), (3, .int v3_5), (4, .int v4_5)] → W p l e R s m ([.ref r0, .int a1, .int a2] : List Value).toArray below meth c H_5 locs_5 0 0 Q (F0 m 18 ls []) := by
      intro N
      induction N with
      | zero => intro v3_5 v4_5 kf H_5 locs_5 hh_5  hi_5 hm; exact absurd hm (by omega)
      | succ N L18 =>
        intro v3_5 v4_5 kf H_5 locs_5 hh_5  hi_5 hm_5 ls hl
        obtain ⟨hi_5_0, hi_5_1, hi_5_2, hi_5_3, hi_5_4, hi_5_5⟩ := hi_5
        refine lv_iload hx hb dX11_commentEnd_18 (lv_at hl 4 rfl) ?_
        refine lv_iconst (v := 1) hx hb dX11_commentEnd_20 (by decide) ?_
        refine lv_iadd hx hb dX11_commentEnd_21 ?_
        refine lv_topi (fun z_6 ez_6 => ?_)
        have hz_6 : z_6.toInt = v4_5.toInt + 1 := by rw [ez_6]; exact jb_iadd2 (rfl) ((by decide)) (by omega)
        refine lv_iload_n hx hb dX11_commentEnd_22 rfl (lv_at hl 2 rfl) ?_
        refine lv_icmp_ge (tgt := 96) hx hb dX11_commentEnd_23 (by decide) (fun c_7 => ?_) (fun c_7 => ?_)
        · skip
          have c_7' : z_6.toInt ≥ a2.toInt := jb_ge (rfl) (rfl) c_7
          refine lv_iconst (v := (-1)) hx hb dX11_commentEnd_96 (by decide) ?_
          rw [hQ]
          exact W.iret (v := (-1)) hx hb hr (fun t ht hW => ⟨⟨(-1), (), rfl, by refine ⟨?_, by omega⟩; unfold jCe; rw [if_pos (by omega)]; exact (jBc_near (by omega) (by omega) (by omega) rfl).trans hi_5_5, hh_5.rt (M1 := []) [] rfl ht⟩, by rw [ht]; try exact hh_5.1.1, fun q h9 hq => by rw [ht]; try exact hh_5.1.2.1 q h9 hq⟩) hh_5.1.2.2 dX11_commentEnd_97
        · skip
          have c_7' : z_6.toInt < a2.toInt := jb_ge_n (rfl) (rfl) c_7
          refine lv_aload_n hx hb dX11_commentEnd_26 rfl (lv_at hl 0 rfl) ?_
          refine lv_iload hx hb dX11_commentEnd_27 (lv_at hl 4 rfl) ?_
          refine j7_ialdM hx hb hK hh_5 hB173 1 rfl (by decide) hg_r0 (x := v4_5.toInt) (rfl) (by omega) (j := 0) rfl dX11_commentEnd_29 (fun z_8 ez_8 (hz_8 : True) => ?_)
          have hqz_8 : z_8.toInt = (f0 (v4_5.toInt).toNat).toInt := by rw [ez_8]
          refine lv_bipush (v := 40) hx hb dX11_commentEnd_30 (by decide) ?_
          refine lv_icmp_ne (tgt := 55) hx hb dX11_commentEnd_32 (by decide) (fun c_9 => ?_) (fun c_9 => ?_)
          · skip
            have c_9' : z_8.toInt ≠ 40 := jb_ne (rfl) ((by decide)) c_9
            refine lv_aload_n hx hb dX11_commentEnd_55 rfl (lv_at hl 0 rfl) ?_
            refine lv_iload hx hb dX11_commentEnd_56 (lv_at hl 4 rfl) ?_
            refine j7_ialdM hx hb hK hh_5 hB173 1 rfl (by decide) hg_r0 (x := v4_5.toInt) (rfl) (by omega) (j := 0) rfl dX11_commentEnd_58 (fun z_10 ez_10 (hz_10 : True) => ?_)
            have hqz_10 : z_10.toInt = (f0 (v4_5.toInt).toNat).toInt := by rw [ez_10]
            refine lv_bipush (v := 42) hx hb dX11_commentEnd_59 (by decide) ?_
            refine lv_icmp_ne (tgt := 90) hx hb dX11_commentEnd_61 (by decide) (fun c_11 => ?_) (fun c_11 => ?_)
            · skip
              have c_11' : z_10.toInt ≠ 42 := jb_ne (rfl) ((by decide)) c_11
              obtain ⟨z_12, ez_12⟩ : ∃ y : Int32, y = v4_5 + 1 := ⟨_, rfl⟩
              refine lv_iinc (v := z_12) (lv' := [(4, .int z_12), (0, .ref r0), (1, .int a1), (2, .int a2), (3, .int v3_5)]) hx hb dX11_commentEnd_90 hl (k := 4) rfl (by rw [ez_12]; rfl) (by decide) rfl (fun ls hl => ?_)
              have hz_12 : z_12.toInt = v4_5.toInt + 1 := by rw [ez_12]; exact jb_iadd2 (rfl) (by decide) (by omega)
              refine lv_goto (tgt := 18) hx hb dX11_commentEnd_93 (by decide) ?_
              exact L18 v3_5 z_12 (kf - 1) _ _ hh_5 (by refine ⟨by omega, by omega, by omega, by omega, by omega, ?_⟩; first | exact (jBc_op (by omega) (by omega) (by unfold jOpI; rw [if_pos (by omega)]) (by omega) (by omega)).trans hi_5_5 | exact (jBc_cl (by omega) (by omega) (by unfold jOpI; rw [if_neg (by omega)]) (by unfold jClI; rw [if_pos (by omega)]) (by omega) (by omega) (by omega)).trans hi_5_5 | exact (jBc_el (by omega) (by omega) (by unfold jOpI; rw [if_neg (by omega)]) (by unfold jClI; rw [if_neg (by omega)]) (by omega) (by omega)).trans hi_5_5) (by omega) _ (lv_sub hl [1, 2, 3, 4, 0] rfl)
            · skip
              have c_11' : z_10.toInt = 42 := jb_ne_n (rfl) ((by decide)) c_11
              refine lv_aload_n hx hb dX11_commentEnd_64 rfl (lv_at hl 0 rfl) ?_
              refine lv_iload hx hb dX11_commentEnd_65 (lv_at hl 4 rfl) ?_
              refine lv_iconst (v := 1) hx hb dX11_commentEnd_67 (by decide) ?_
              refine lv_iadd hx hb dX11_commentEnd_68 ?_
              refine lv_topi (fun z_13 ez_13 => ?_)
              have hz_13 : z_13.toInt = v4_5.toInt + 1 := by rw [ez_13]; exact jb_iadd2 (rfl) ((by decide)) (by omega)
              refine j7_ialdM hx hb hK hh_5 hB173 1 rfl (by decide) hg_r0 (x := z_13.toInt) (rfl) (by omega) (j := 0) rfl dX11_commentEnd_69 (fun z_14 ez_14 (hz_14 : True) => ?_)
              have hqz_14 : z_14.toInt = (f0 ((v4_5.toInt + 1)).toNat).toInt := by rw [ez_14, show z_13.toInt = (v4_5.toInt + 1) by omega]
              first | have hqz_14_15 : z_14.toInt = (f0 (v4_5.toInt).toNat).toInt := by rw [ez_14, show z_13.toInt = v4_5.toInt by omega] | skip
              refine lv_bipush (v := 41) hx hb dX11_commentEnd_70 (by decide) ?_
              refine lv_icmp_ne (tgt := 90) hx hb dX11_commentEnd_72 (by decide) (fun c_16 => ?_) (fun c_16 => ?_)
              · skip
                have c_16' : z_14.toInt ≠ 41 := jb_ne (rfl) ((by decide)) c_16
                obtain ⟨z_17, ez_17⟩ : ∃ y : Int32, y = v4_5 + 1 := ⟨_, rfl⟩
                refine lv_iinc (v := z_17) (lv' := [(4, .int z_17), (0, .ref r0), (1, .int a1), (2, .int a2), (3, .int v3_5)]) hx hb dX11_commentEnd_90 hl (k := 4) rfl (by rw [ez_17]; rfl) (by decide) rfl (fun ls hl => ?_)
                have hz_17 : z_17.toInt = v4_5.toInt + 1 := by rw [ez_17]; exact jb_iadd2 (rfl) (by decide) (by omega)
                refine lv_goto (tgt := 18) hx hb dX11_commentEnd_93 (by decide) ?_
                exact L18 v3_5 z_17 (kf - 1) _ _ hh_5 (by refine ⟨by omega, by omega, by omega, by omega, by omega, ?_⟩; first | exact (jBc_op (by omega) (by omega) (by unfold jOpI; rw [if_pos (by omega)]) (by omega) (by omega)).trans hi_5_5 | exact (jBc_cl (by omega) (by omega) (by unfold jOpI; rw [if_neg (by omega)]) (by unfold jClI; rw [if_pos (by omega)]) (by omega) (by omega) (by omega)).trans hi_5_5 | exact (jBc_el (by omega) (by omega) (by unfold jOpI; rw [if_neg (by omega)]) (by unfold jClI; rw [if_neg (by omega)]) (by omega) (by omega)).trans hi_5_5) (by omega) _ (lv_sub hl [1, 2, 3, 4, 0] rfl)
              · skip
                have c_16' : z_14.toInt = 41 := jb_ne_n (rfl) ((by decide)) c_16
                obtain ⟨z_18, ez_18⟩ : ∃ y : Int32, y = v3_5 + (-1) := ⟨_, rfl⟩
                refine lv_iinc (v := z_18) (lv' := [(3, .int z_18), (0, .ref r0), (1, .int a1), (2, .int a2), (4, .int v4_5)]) hx hb dX11_commentEnd_75 hl (k := 3) rfl (by rw [ez_18]; rfl) (by decide) rfl (fun ls hl => ?_)
                have hz_18 : z_18.toInt = v3_5.toInt + (-1) := by rw [ez_18]; exact jb_iadd2 (rfl) (by decide) (by omega)
                obtain ⟨z_19, ez_19⟩ : ∃ y : Int32, y = v4_5 + 1 := ⟨_, rfl⟩
                refine lv_iinc (v := z_19) (lv' := [(4, .int z_19), (3, .int z_18), (0, .ref r0), (1, .int a1), (2, .int a2)]) hx hb dX11_commentEnd_78 hl (k := 4) rfl (by rw [ez_19]; rfl) (by decide) rfl (fun ls hl => ?_)
                have hz_19 : z_19.toInt = v4_5.toInt + 1 := by rw [ez_19]; exact jb_iadd2 (rfl) (by decide) (by omega)
                refine lv_iload_n hx hb dX11_commentEnd_81 rfl (lv_at hl 1 rfl) ?_
                refine lv_if_ne (tgt := 90) hx hb dX11_commentEnd_82 (by decide) (fun c_20 => ?_) (fun c_20 => ?_)
                · skip
                  have c_20' : z_18.toInt ≠ 0 := jb_ne (rfl) ((by decide)) c_20
                  obtain ⟨z_21, ez_21⟩ : ∃ y : Int32, y = z_19 + 1 := ⟨_, rfl⟩
                  refine lv_iinc (v := z_21) (lv' := [(4, .int z_21), (3, .int z_18), (0, .ref r0), (1, .int a1), (2, .int a2)]) hx hb dX11_commentEnd_90 hl (k := 0) rfl (by rw [ez_21]; rfl) (by decide) rfl (fun ls hl => ?_)
                  have hz_21 : z_21.toInt = z_19.toInt + 1 := by rw [ez_21]; exact jb_iadd2 (rfl) (by decide) (by omega)
                  refine lv_goto (tgt := 18) hx hb dX11_commentEnd_93 (by decide) ?_
                  exact L18 z_18 z_21 (kf - 1) _ _ hh_5 (by refine ⟨by omega, by omega, by omega, by omega, by omega, ?_⟩; first | exact (jBc_op (by omega) (by omega) (by unfold jOpI; rw [if_pos (by omega)]) (by omega) (by omega)).trans hi_5_5 | exact (jBc_cl (by omega) (by omega) (by unfold jOpI; rw [if_neg (by omega)]) (by unfold jClI; rw [if_pos (by omega)]) (by omega) (by omega) (by omega)).trans hi_5_5 | exact (jBc_el (by omega) (by omega) (by unfold jOpI; rw [if_neg (by omega)]) (by unfold jClI; rw [if_neg (by omega)]) (by omega) (by omega)).trans hi_5_5) (by omega) _ (lv_sub hl [2, 3, 4, 1, 0] rfl)
                · skip
                  have c_20' : z_18.toInt = 0 := jb_ne_n (rfl) ((by decide)) c_20
                  refine lv_iload hx hb dX11_commentEnd_85 (lv_at hl 0 rfl) ?_
                  refine lv_iconst (v := 1) hx hb dX11_commentEnd_87 (by decide) ?_
                  refine lv_iadd hx hb dX11_commentEnd_88 ?_
                  refine lv_topi (fun z_22 ez_22 => ?_)
                  have hz_22 : z_22.toInt = z_19.toInt + 1 := by rw [ez_22]; exact jb_iadd2 (rfl) ((by decide)) (by omega)
                  rw [hQ]
                  exact W.iret (v := z_22) hx hb hr (fun t ht hW => ⟨⟨z_22, (), rfl, by refine ⟨?_, by omega⟩; unfold jCe; rw [if_pos (by omega)]; exact (jBc_end (by omega) (by omega) (by unfold jOpI; rw [if_neg (by omega)]) (by unfold jClI; rw [if_pos (by omega)]) (by omega) (by omega)).trans hi_5_5, hh_5.rt (M1 := []) [] rfl ht⟩, by rw [ht]; try exact hh_5.1.1, fun q h9 hq => by rw [ht]; try exact hh_5.1.2.1 q h9 hq⟩) hh_5.1.2.2 dX11_commentEnd_89
          · skip
            have c_9' : z_8.toInt = 40 := jb_ne_n (rfl) ((by decide)) c_9
            refine lv_aload_n hx hb dX11_commentEnd_35 rfl (lv_at hl 0 rfl) ?_
            refine lv_iload hx hb dX11_commentEnd_36 (lv_at hl 4 rfl) ?_
            refine lv_iconst (v := 1) hx hb dX11_commentEnd_38 (by decide) ?_
            refine lv_iadd hx hb dX11_commentEnd_39 ?_
            refine lv_topi (fun z_23 ez_23 => ?_)
            have hz_23 : z_23.toInt = v4_5.toInt + 1 := by rw [ez_23]; exact jb_iadd2 (rfl) ((by decide)) (by omega)
            refine j7_ialdM hx hb hK hh_5 hB173 1 rfl (by decide) hg_r0 (x := z_23.toInt) (rfl) (by omega) (j := 0) rfl dX11_commentEnd_40 (fun z_24 ez_24 (hz_24 : True) => ?_)
            have hqz_24 : z_24.toInt = (f0 ((v4_5.toInt + 1)).toNat).toInt := by rw [ez_24, show z_23.toInt = (v4_5.toInt + 1) by omega]
            first | have hqz_24_25 : z_24.toInt = (f0 (v4_5.toInt).toNat).toInt := by rw [ez_24, show z_23.toInt = v4_5.toInt by omega] | skip
            refine lv_bipush (v := 42) hx hb dX11_commentEnd_41 (by decide) ?_
            refine lv_icmp_ne (tgt := 55) hx hb dX11_commentEnd_43 (by decide) (fun c_26 => ?_) (fun c_26 => ?_)
            · skip
              have c_26' : z_24.toInt ≠ 42 := jb_ne (rfl) ((by decide)) c_26
              refine lv_aload_n hx hb dX11_commentEnd_55 rfl (lv_at hl 0 rfl) ?_
              refine lv_iload hx hb dX11_commentEnd_56 (lv_at hl 4 rfl) ?_
              refine j7_ialdM hx hb hK hh_5 hB173 1 rfl (by decide) hg_r0 (x := v4_5.toInt) (rfl) (by omega) (j := 0) rfl dX11_commentEnd_58 (fun z_27 ez_27 (hz_27 : True) => ?_)
              have hqz_27 : z_27.toInt = (f0 (v4_5.toInt).toNat).toInt := by rw [ez_27]
              first | have hqz_27_28 : z_27.toInt = (f0 ((v4_5.toInt + 1)).toNat).toInt := by rw [ez_27, show v4_5.toInt = (v4_5.toInt + 1) by omega] | skip
              refine lv_bipush (v := 42) hx hb dX11_commentEnd_59 (by decide) ?_
              refine lv_icmp_ne (tgt := 90) hx hb dX11_commentEnd_61 (by decide) (fun c_29 => ?_) (fun c_29 => ?_)
              · skip
                have c_29' : z_27.toInt ≠ 42 := jb_ne (rfl) ((by decide)) c_29
                obtain ⟨z_30, ez_30⟩ : ∃ y : Int32, y = v4_5 + 1 := ⟨_, rfl⟩
                refine lv_iinc (v := z_30) (lv' := [(4, .int z_30), (0, .ref r0), (1, .int a1), (2, .int a2), (3, .int v3_5)]) hx hb dX11_commentEnd_90 hl (k := 4) rfl (by rw [ez_30]; rfl) (by decide) rfl (fun ls hl => ?_)
                have hz_30 : z_30.toInt = v4_5.toInt + 1 := by rw [ez_30]; exact jb_iadd2 (rfl) (by decide) (by omega)
                refine lv_goto (tgt := 18) hx hb dX11_commentEnd_93 (by decide) ?_
                exact L18 v3_5 z_30 (kf - 1) _ _ hh_5 (by refine ⟨by omega, by omega, by omega, by omega, by omega, ?_⟩; first | exact (jBc_op (by omega) (by omega) (by unfold jOpI; rw [if_pos (by omega)]) (by omega) (by omega)).trans hi_5_5 | exact (jBc_cl (by omega) (by omega) (by unfold jOpI; rw [if_neg (by omega)]) (by unfold jClI; rw [if_pos (by omega)]) (by omega) (by omega) (by omega)).trans hi_5_5 | exact (jBc_el (by omega) (by omega) (by unfold jOpI; rw [if_neg (by omega)]) (by unfold jClI; rw [if_neg (by omega)]) (by omega) (by omega)).trans hi_5_5) (by omega) _ (lv_sub hl [1, 2, 3, 4, 0] rfl)
              · skip
                have c_29' : z_27.toInt = 42 := jb_ne_n (rfl) ((by decide)) c_29
                refine lv_aload_n hx hb dX11_commentEnd_64 rfl (lv_at hl 0 rfl) ?_
                refine lv_iload hx hb dX11_commentEnd_65 (lv_at hl 4 rfl) ?_
                refine lv_iconst (v := 1) hx hb dX11_commentEnd_67 (by decide) ?_
                refine lv_iadd hx hb dX11_commentEnd_68 ?_
                refine lv_topi (fun z_31 ez_31 => ?_)
                have hz_31 : z_31.toInt = v4_5.toInt + 1 := by rw [ez_31]; exact jb_iadd2 (rfl) ((by decide)) (by omega)
                refine j7_ialdM hx hb hK hh_5 hB173 1 rfl (by decide) hg_r0 (x := z_31.toInt) (rfl) (by omega) (j := 0) rfl dX11_commentEnd_69 (fun z_32 ez_32 (hz_32 : True) => ?_)
                have hqz_32 : z_32.toInt = (f0 ((v4_5.toInt + 1)).toNat).toInt := by rw [ez_32, show z_31.toInt = (v4_5.toInt + 1) by omega]
                first | have hqz_32_33 : z_32.toInt = (f0 (v4_5.toInt).toNat).toInt := by rw [ez_32, show z_31.toInt = v4_5.toInt by omega] | skip
                refine lv_bipush (v := 41) hx hb dX11_commentEnd_70 (by decide) ?_
                refine lv_icmp_ne (tgt := 90) hx hb dX11_commentEnd_72 (by decide) (fun c_34 => ?_) (fun c_34 => ?_)
                · skip
                  have c_34' : z_32.toInt ≠ 41 := jb_ne (rfl) ((by decide)) c_34
                  obtain ⟨z_35, ez_35⟩ : ∃ y : Int32, y = v4_5 + 1 := ⟨_, rfl⟩
                  refine lv_iinc (v := z_35) (lv' := [(4, .int z_35), (0, .ref r0), (1, .int a1), (2, .int a2), (3, .int v3_5)]) hx hb dX11_commentEnd_90 hl (k := 4) rfl (by rw [ez_35]; rfl) (by decide) rfl (fun ls hl => ?_)
                  have hz_35 : z_35.toInt = v4_5.toInt + 1 := by rw [ez_35]; exact jb_iadd2 (rfl) (by decide) (by omega)
                  refine lv_goto (tgt := 18) hx hb dX11_commentEnd_93 (by decide) ?_
                  exact L18 v3_5 z_35 (kf - 1) _ _ hh_5 (by refine ⟨by omega, by omega, by omega, by omega, by omega, ?_⟩; first | exact (jBc_op (by omega) (by omega) (by unfold jOpI; rw [if_pos (by omega)]) (by omega) (by omega)).trans hi_5_5 | exact (jBc_cl (by omega) (by omega) (by unfold jOpI; rw [if_neg (by omega)]) (by unfold jClI; rw [if_pos (by omega)]) (by omega) (by omega) (by omega)).trans hi_5_5 | exact (jBc_el (by omega) (by omega) (by unfold jOpI; rw [if_neg (by omega)]) (by unfold jClI; rw [if_neg (by omega)]) (by omega) (by omega)).trans hi_5_5) (by omega) _ (lv_sub hl [1, 2, 3, 4, 0] rfl)
                · skip
                  have c_34' : z_32.toInt = 41 := jb_ne_n (rfl) ((by decide)) c_34
                  obtain ⟨z_36, ez_36⟩ : ∃ y : Int32, y = v3_5 + (-1) := ⟨_, rfl⟩
                  refine lv_iinc (v := z_36) (lv' := [(3, .int z_36), (0, .ref r0), (1, .int a1), (2, .int a2), (4, .int v4_5)]) hx hb dX11_commentEnd_75 hl (k := 3) rfl (by rw [ez_36]; rfl) (by decide) rfl (fun ls hl => ?_)
                  have hz_36 : z_36.toInt = v3_5.toInt + (-1) := by rw [ez_36]; exact jb_iadd2 (rfl) (by decide) (by omega)
                  obtain ⟨z_37, ez_37⟩ : ∃ y : Int32, y = v4_5 + 1 := ⟨_, rfl⟩
                  refine lv_iinc (v := z_37) (lv' := [(4, .int z_37), (3, .int z_36), (0, .ref r0), (1, .int a1), (2, .int a2)]) hx hb dX11_commentEnd_78 hl (k := 4) rfl (by rw [ez_37]; rfl) (by decide) rfl (fun ls hl => ?_)
                  have hz_37 : z_37.toInt = v4_5.toInt + 1 := by rw [ez_37]; exact jb_iadd2 (rfl) (by decide) (by omega)
                  refine lv_iload_n hx hb dX11_commentEnd_81 rfl (lv_at hl 1 rfl) ?_
                  refine lv_if_ne (tgt := 90) hx hb dX11_commentEnd_82 (by decide) (fun c_38 => ?_) (fun c_38 => ?_)
                  · skip
                    have c_38' : z_36.toInt ≠ 0 := jb_ne (rfl) ((by decide)) c_38
                    obtain ⟨z_39, ez_39⟩ : ∃ y : Int32, y = z_37 + 1 := ⟨_, rfl⟩
                    refine lv_iinc (v := z_39) (lv' := [(4, .int z_39), (3, .int z_36), (0, .ref r0), (1, .int a1), (2, .int a2)]) hx hb dX11_commentEnd_90 hl (k := 0) rfl (by rw [ez_39]; rfl) (by decide) rfl (fun ls hl => ?_)
                    have hz_39 : z_39.toInt = z_37.toInt + 1 := by rw [ez_39]; exact jb_iadd2 (rfl) (by decide) (by omega)
                    refine lv_goto (tgt := 18) hx hb dX11_commentEnd_93 (by decide) ?_
                    exact L18 z_36 z_39 (kf - 1) _ _ hh_5 (by refine ⟨by omega, by omega, by omega, by omega, by omega, ?_⟩; first | exact (jBc_op (by omega) (by omega) (by unfold jOpI; rw [if_pos (by omega)]) (by omega) (by omega)).trans hi_5_5 | exact (jBc_cl (by omega) (by omega) (by unfold jOpI; rw [if_neg (by omega)]) (by unfold jClI; rw [if_pos (by omega)]) (by omega) (by omega) (by omega)).trans hi_5_5 | exact (jBc_el (by omega) (by omega) (by unfold jOpI; rw [if_neg (by omega)]) (by unfold jClI; rw [if_neg (by omega)]) (by omega) (by omega)).trans hi_5_5) (by omega) _ (lv_sub hl [2, 3, 4, 1, 0] rfl)
                  · skip
                    have c_38' : z_36.toInt = 0 := jb_ne_n (rfl) ((by decide)) c_38
                    refine lv_iload hx hb dX11_commentEnd_85 (lv_at hl 0 rfl) ?_
                    refine lv_iconst (v := 1) hx hb dX11_commentEnd_87 (by decide) ?_
                    refine lv_iadd hx hb dX11_commentEnd_88 ?_
                    refine lv_topi (fun z_40 ez_40 => ?_)
                    have hz_40 : z_40.toInt = z_37.toInt + 1 := by rw [ez_40]; exact jb_iadd2 (rfl) ((by decide)) (by omega)
                    rw [hQ]
                    exact W.iret (v := z_40) hx hb hr (fun t ht hW => ⟨⟨z_40, (), rfl, by refine ⟨?_, by omega⟩; unfold jCe; rw [if_pos (by omega)]; exact (jBc_end (by omega) (by omega) (by unfold jOpI; rw [if_neg (by omega)]) (by unfold jClI; rw [if_pos (by omega)]) (by omega) (by omega)).trans hi_5_5, hh_5.rt (M1 := []) [] rfl ht⟩, by rw [ht]; try exact hh_5.1.1, fun q h9 hq => by rw [ht]; try exact hh_5.1.2.1 q h9 hq⟩) hh_5.1.2.2 dX11_commentEnd_89
            · skip
              have c_26' : z_24.toInt = 42 := jb_ne_n (rfl) ((by decide)) c_26
              obtain ⟨z_41, ez_41⟩ : ∃ y : Int32, y = v3_5 + 1 := ⟨_, rfl⟩
              refine lv_iinc (v := z_41) (lv' := [(3, .int z_41), (0, .ref r0), (1, .int a1), (2, .int a2), (4, .int v4_5)]) hx hb dX11_commentEnd_46 hl (k := 3) rfl (by rw [ez_41]; rfl) (by decide) rfl (fun ls hl => ?_)
              have hz_41 : z_41.toInt = v3_5.toInt + 1 := by rw [ez_41]; exact jb_iadd2 (rfl) (by decide) (by omega)
              obtain ⟨z_42, ez_42⟩ : ∃ y : Int32, y = v4_5 + 1 := ⟨_, rfl⟩
              refine lv_iinc (v := z_42) (lv' := [(4, .int z_42), (3, .int z_41), (0, .ref r0), (1, .int a1), (2, .int a2)]) hx hb dX11_commentEnd_49 hl (k := 4) rfl (by rw [ez_42]; rfl) (by decide) rfl (fun ls hl => ?_)
              have hz_42 : z_42.toInt = v4_5.toInt + 1 := by rw [ez_42]; exact jb_iadd2 (rfl) (by decide) (by omega)
              refine lv_goto (tgt := 90) hx hb dX11_commentEnd_52 (by decide) ?_
              obtain ⟨z_43, ez_43⟩ : ∃ y : Int32, y = z_42 + 1 := ⟨_, rfl⟩
              refine lv_iinc (v := z_43) (lv' := [(4, .int z_43), (3, .int z_41), (0, .ref r0), (1, .int a1), (2, .int a2)]) hx hb dX11_commentEnd_90 hl (k := 0) rfl (by rw [ez_43]; rfl) (by decide) rfl (fun ls hl => ?_)
              have hz_43 : z_43.toInt = z_42.toInt + 1 := by rw [ez_43]; exact jb_iadd2 (rfl) (by decide) (by omega)
              refine lv_goto (tgt := 18) hx hb dX11_commentEnd_93 (by decide) ?_
              exact L18 z_41 z_43 (kf - 1) _ _ hh_5 (by refine ⟨by omega, by omega, by omega, by omega, by omega, ?_⟩; first | exact (jBc_op (by omega) (by omega) (by unfold jOpI; rw [if_pos (by omega)]) (by omega) (by omega)).trans hi_5_5 | exact (jBc_cl (by omega) (by omega) (by unfold jOpI; rw [if_neg (by omega)]) (by unfold jClI; rw [if_pos (by omega)]) (by omega) (by omega) (by omega)).trans hi_5_5 | exact (jBc_el (by omega) (by omega) (by unfold jOpI; rw [if_neg (by omega)]) (by unfold jClI; rw [if_neg (by omega)]) (by omega) (by omega)).trans hi_5_5) (by omega) _ (lv_sub hl [2, 3, 4, 1, 0] rfl)
    exact L18 (a2.toInt - (z_4 : Int32).toInt : Int).toNat.succ 1 z_4 ((a2.toInt - a1.toInt).toNat + 1 - 1) _ _ hh_1 (by refine ⟨by omega, by omega, by omega, by omega, by omega, ?_⟩; exact jBc_op (by omega) (by omega) (by omega) (by omega) (by omega)) (by omega) _ (lv_sub hl [2, 3, 4, 1, 0] rfl)
  · skip
    have c_3' : r_2.toInt = 0 := jb_ne_n (rfl) ((by decide)) c_3
    first | (have hr_2p_1q := hr_2p_1.resolve_left (by omega); clear hr_2p_1) | (have hr_2p_1q := hr_2p_1.resolve_right (by omega); clear hr_2p_1) | try clear hr_2p_1
    refine lv_iconst (v := (-1)) hx hb dX11_commentEnd_9 (by decide) ?_
    rw [hQ]
    exact W.iret (v := (-1)) hx hb hr (fun t ht hW => ⟨⟨(-1), (), rfl, by refine ⟨?_, by omega⟩; unfold jCe; rw [if_neg (by omega)]; rfl, hh_1.rt (M1 := []) [] rfl ht⟩, by rw [ht]; try exact hh_1.1.1, fun q h9 hq => by rw [ht]; try exact hh_1.1.2.1 q h9 hq⟩) hh_1.1.2.2 dX11_commentEnd_10
set_option maxHeartbeats 4000000 in
set_option maxRecDepth 20000 in
theorem uX1_sentenceBeginP (l : Launch) (dC : Nat → ClassId) (dI : Nat → Nat → Nat) (ca : Nat → ClassId) (base : Nat) (B : jF) (hB : jBok B) (hAp : jAp (dC, dI)) (hB3 : ∀ n G a H, B 3 n G a H ↔ jOb (dC, dI) 3 17 (F3 n G) a H) (hB101 : ∀ n G a H, B 101 n G a H ↔ jAr (dC, dI) (ca 1) (fun j z => True) n a H) (hB173 : ∀ n G a H, B 173 n G a H ↔ jAr (dC, dI) (ca 1) (fun j z => True) n a H) (G0 : jT) (H0 : Heap) (r0 : Nat) (a1 : Int32) (n0 : Nat) (pl : Int32) (tx_ : Nat) (ft : Nat → Int32) : Met l yX1_sentenceBegin (jw yX1_sentenceBegin cX1_sentenceBegin 5 (some .int)) ({ frames := 2, cells := 0, slots := 0, locals := 46 }) (va_Pc [.ref r0, .int a1] (fun U => U.heap = H0 ∧ jX B base G0 [] H0 ∧ jG dC dI ca base U ∧ G0 r0 = some (3, n0) ∧ G0 tx_ = some (173, 1500) ∧ jP (dC, dI) G0 H0 [(r0, 3, 3, .int pl), (r0, 3, 2, .ref tx_)] ∧ jMc (dC, dI) G0 H0 [(tx_, 173, 1500, ca 1, ft)] ∧ 0 ≤ a1.toInt ∧ a1.toInt ≤ pl.toInt ∧ pl.toInt ≤ 1500)) (va_Qi (S := Unit) (fun r u => (r.toInt = jGap ft pl.toInt a1.toInt ∧ a1.toInt ≤ r.toInt ∧ r.toInt ≤ pl.toInt)) (fun u t => jRt (dC, dI) B base G0 EX1_sentenceBeginP H0 [] t.heap) (jA base)) 0 0 (jA base) := by
  refine Met.ofW (cc := cX1_sentenceBegin) (maxL := 5) (ret := (some .int)) (by decide) rfl ?_
  intro p e s m args below meth c s₁ Bd hml hv
  obtain ⟨rfl, hH0, hX, hG, hg_r0, hg_tx_, hP0, hM0, hp0, hp1, hp2⟩ := hv
  have hK := hG.1
  have hx := Bd.exec
  have hb := Bd.bytes
  have hr := Bd.returns
  have hts := atoms_spec (ws := (jw yX1_sentenceBegin cX1_sentenceBegin 5 (some .int))) Bd.pre
  have htw : ∀ w ∈ jWl, w.before _ s = true := fun w h => hts w (List.mem_cons_of_mem _ h)
  have hown : s.vm.findClass RX1 = some m.cls := findClass_of_methodNamed Bd.named
  have hlocks := Bd.notSynchronized
  obtain ⟨Q, hQ⟩ : ∃ Q, Q = MQ below (va_Qi (S := Unit) (fun r u => (r.toInt = jGap ft pl.toInt a1.toInt ∧ a1.toInt ≤ r.toInt ∧ r.toInt ≤ pl.toInt)) (fun u t => jRt (dC, dI) B base G0 EX1_sentenceBeginP H0 [] t.heap) (jA base)) ([.ref r0, .int a1] : List Value).toArray s 0 0 (jA base) := ⟨_, rfl⟩
  rw [← hQ]
  have hl := lv_entry ([.ref r0, .int a1]) (n := 5) (Nat.le_of_ble_eq_true rfl)
  rw [lg_entry_eq]
  generalize (lg_sl ([.ref r0, .int a1]) ++ List.replicate (5 - (lg_sl ([.ref r0, .int a1])).length) Slot.unset).toArray = ls at hl ⊢
  have hl : lv_has ls 5 [(0, .ref r0), (1, .int a1)] := hl
  generalize hR : (headSpec (jw yX1_sentenceBegin cX1_sentenceBegin 5 (some .int)) ({ frames := 2, cells := 0, slots := 0, locals := 46 })).room = R
  subst hH0
  have hh : jSt (dC, dI) B base G0 G0 EX1_sentenceBeginP s.heap 0 0 [(r0, 3, 3, .int pl), (r0, 3, 2, .ref tx_)] [(tx_, 173, 1500, ca 1, ft)] [] s.heap [] := jSt.start hX hP0 hM0 jIs.nil
  clear hX hP0
  have hk0 : (0 : Int32).toInt = 0 := by decide
  have hk1 : (1 : Int32).toInt = 1 := by decide
  have hly_3_2 := htw (u_lay RX1 TX1 2) (jWc_wsX10 _ (u_in_lay (by decide)))
  have hly_3_3 := htw (u_lay RX1 TX1 3) (jWc_wsX10 _ (u_in_lay (by decide)))
  have hlk_42 := (htw (.fieldLink RX1 42 "ProofServer$Document" "length" "I") (jWr_29 _ (List.mem_of_getElem? (i := 5) rfl)))
  have hlk_15 := (htw (.fieldLink RX1 15 "ProofServer$Document" "text" "[I") (jWr_10 _ (List.mem_of_getElem? (i := 6) rfl)))
  have hrg_a1 := jb_rng a1
  refine lv_iload_n hx hb dX1_sentenceBegin_0 rfl (lv_at hl 1 rfl) ?_
  refine lv_istore_n (lv' := [(2, .int a1), (0, .ref r0), (1, .int a1)]) hx hb dX1_sentenceBegin_1 rfl hl (by decide) rfl (fun ls hl => ?_)
  refine lv_iconst (v := 0) hx hb dX1_sentenceBegin_2 (by decide) ?_
  refine lv_istore_n (lv' := [(3, .int 0), (2, .int a1), (0, .ref r0), (1, .int a1)]) hx hb dX1_sentenceBegin_3 rfl hl (by decide) rfl (fun ls hl => ?_)
  have L4 : ∀ (N : Nat) (v2_1 : Int32) (v3_1 : Int32) (kf : Nat) (H_1 : Heap) (locs_1 : List Loc), jSt (dC, dI) B base G0 G0 EX1_sentenceBeginP s.heap 0 0 [(r0, 3, 3, .int pl), (r0, 3, 2, .ref tx_)] [(tx_, 173, 1500, ca 1, ft)] [] H_1 locs_1 → (a1.toInt ≤ v2_1.toInt ∧ v2_1.toInt ≤ pl.toInt ∧ 0 ≤ v3_1.toInt ∧ v3_1.toInt ≤ v2_1.toInt ∧ pl.toInt - v2_1.toInt < kf ∧ jGa ft pl.toInt kf v2_1.toInt = jGap ft pl.toInt a1.toInt) → (pl.toInt - v2_1.toInt : Int) < N → ∀ ls : Array Slot, lv_has ls 5 [(0, .ref r0), (1, .int a1), (2, .int v2_1), (3, .int v3_1)] → W p l e R s m ([.ref r0, .int a1] : List Value).toArray below meth c H_1 locs_1 0 0 Q (F0 m 4 ls []) := by
    intro N
    induction N with
    | zero => intro v2_1 v3_1 kf H_1 locs_1 hh_1  hi_1 hm; exact absurd hm (by omega)
    | succ N L4 =>
      intro v2_1 v3_1 kf H_1 locs_1 hh_1  hi_1 hm_1 ls hl
      obtain ⟨hi_1_0, hi_1_1, hi_1_2, hi_1_3, hi_1_4, hi_1_5⟩ := hi_1
      refine lv_iload_n hx hb dX1_sentenceBegin_4 rfl (lv_at hl 3 rfl) ?_
      refine lv_aload_n hx hb dX1_sentenceBegin_5 rfl (lv_at hl 0 rfl) ?_
      refine j7_read hx hb hown hK (C := RX1) (T := TX1) (N := 17) rfl hly_3_3 hlk_42 (hh_1.at 0 rfl) dX1_sentenceBegin_6 ?_
      refine lv_icmp_gt (tgt := 68) hx hb dX1_sentenceBegin_9 (by decide) (fun c_2 => ?_) (fun c_2 => ?_)
      · skip
        have c_2' : v3_1.toInt > pl.toInt := jb_gt (rfl) (rfl) c_2
        exact absurd c_2' (by omega)
      · skip
        have c_2' : v3_1.toInt ≤ pl.toInt := jb_gt_n (rfl) (rfl) c_2
        refine lv_iload_n hx hb dX1_sentenceBegin_12 rfl (lv_at hl 2 rfl) ?_
        refine lv_aload_n hx hb dX1_sentenceBegin_13 rfl (lv_at hl 0 rfl) ?_
        refine j7_read hx hb hown hK (C := RX1) (T := TX1) (N := 17) rfl hly_3_3 hlk_42 (hh_1.at 0 rfl) dX1_sentenceBegin_14 ?_
        refine lv_icmp_ge (tgt := 68) hx hb dX1_sentenceBegin_17 (by decide) (fun c_3 => ?_) (fun c_3 => ?_)
        · skip
          have c_3' : v2_1.toInt ≥ pl.toInt := jb_ge (rfl) (rfl) c_3
          refine lv_iload_n hx hb dX1_sentenceBegin_68 rfl (lv_at hl 2 rfl) ?_
          rw [hQ]
          exact W.iret (v := v2_1) hx hb hr (fun t ht hW => ⟨⟨v2_1, (), rfl, by refine ⟨?_, by omega, by omega⟩; exact (jGa_n (by omega) (by omega) (by omega)).trans hi_1_5, hh_1.rt (M1 := []) [] rfl ht⟩, by rw [ht]; try exact hh_1.1.1, fun q h9 hq => by rw [ht]; try exact hh_1.1.2.1 q h9 hq⟩) hh_1.1.2.2 dX1_sentenceBegin_69
        · skip
          have c_3' : v2_1.toInt < pl.toInt := jb_ge_n (rfl) (rfl) c_3
          refine lv_aload_n hx hb dX1_sentenceBegin_20 rfl (lv_at hl 0 rfl) ?_
          refine j7_read hx hb hown hK (C := RX1) (T := TX1) (N := 17) rfl hly_3_2 hlk_15 (hh_1.at 1 rfl) dX1_sentenceBegin_21 ?_
          refine lv_iload_n hx hb dX1_sentenceBegin_24 rfl (lv_at hl 2 rfl) ?_
          refine j7_ialdM hx hb hK hh_1 hB173 1 rfl (by decide) hg_tx_ (x := v2_1.toInt) (rfl) (by omega) (j := 0) rfl dX1_sentenceBegin_25 (fun z_4 ez_4 (hz_4 : True) => ?_)
          have hqz_4 : z_4.toInt = jSo ft (v2_1.toInt) := by unfold jSo; rw [ez_4]
          refine va_calli (A0 := jA base) (H0 := s.heap) (va_runSN (As := [.int z_4]) (rest := []) ⟨hx, hb, hml, hown, hts⟩ (uX11_isBlankP l dC dI ca base B hB hAp G0 H_1 z_4) ⟨va_cnB 1 hts (jgW (jWr_20 _ (List.mem_of_getElem? (i := 0) rfl))) rfl rfl rfl (hG.2.2.1 RX1 87 yX11_isBlank "ProofServer" (List.mem_of_getElem? (i := 1119) (by decide +kernel))) (htw (.initialized RX11) (jWr_1 _ (List.mem_of_getElem? (i := 2) rfl))) (by decide +kernel) ⟨by rw [← hR]; exact Nat.le_of_ble_eq_true rfl, by rw [← hR]; exact Nat.le_of_ble_eq_true rfl⟩, htw (.static yX11_isBlank) (jWr_19 _ (List.mem_of_getElem? (i := 23) rfl)), trivial⟩ ⟨fun a U g mk q => by obtain ⟨q0, q1, q2, qK, q10, q11⟩ := q; exact ⟨q0, q1, q2, jG.calling g mk a qK, q10, q11⟩, fun U hU hW => ⟨rfl, hU, hh_1.2.1, hG.step hW hU hh_1.1, jP.nil, trivial⟩⟩ rfl rfl hl.1 rfl (lv_room (Nat.le_of_ble_eq_true rfl)) dX1_sentenceBegin_26 ⟨Nat.zero_le _, Nat.zero_le _⟩) hh_1.1 (fun q _ h => h) (fun q h => h) (fun r_6 u_5 t_5 H_5 locs_5 ht_5 hvm_5 hr_6 hb_5 hz_5 hk_5 hS_5 => ?_)
          rw [ht_5] at hb_5
          obtain ⟨hb_51, hb_52, hb_53, hb_54, hb_55⟩ := hb_5
          have hh_5 : jSt (dC, dI) B base G0 G0 EX1_sentenceBeginP s.heap 0 0 [(r0, 3, 3, .int pl), (r0, 3, 2, .ref tx_)] [(tx_, 173, 1500, ca 1, ft)] [] H_5 locs_5 := ((hh_1.call hb_51 hb_52 hb_53 hb_54 hS_5 rfl (L1 := [(r0, 3, 3, .int pl), (r0, 3, 2, .ref tx_)]) [0, 1] rfl rfl (M1 := [(tx_, 173, 1500, ca 1, ft)]) [0] rfl rfl (I1 := []) [] rfl rfl).more hb_55)
          clear hh_1 ht_5 hvm_5 hz_5 hk_5 hS_5 hb_51 hb_52 hb_53 hb_54 hb_55
          obtain ⟨hr_6b, hr_6p⟩ := hr_6
          have hr_6' := jb_01 hr_6b
          refine lv_if_eq (tgt := 38) hx hb dX1_sentenceBegin_29 (by decide) (fun c_7 => ?_) (fun c_7 => ?_)
          · skip
            have c_7' : r_6.toInt = 0 := jb_eq (rfl) ((by decide)) c_7
            refine lv_aload_n hx hb dX1_sentenceBegin_38 rfl (lv_at hl 0 rfl) ?_
            refine j7_read hx hb hown hK (C := RX1) (T := TX1) (N := 17) rfl hly_3_2 hlk_15 (hh_5.at 1 rfl) dX1_sentenceBegin_39 ?_
            refine lv_iload_n hx hb dX1_sentenceBegin_42 rfl (lv_at hl 2 rfl) ?_
            refine lv_aload_n hx hb dX1_sentenceBegin_43 rfl (lv_at hl 0 rfl) ?_
            refine j7_read hx hb hown hK (C := RX1) (T := TX1) (N := 17) rfl hly_3_3 hlk_42 (hh_5.at 0 rfl) dX1_sentenceBegin_44 ?_
            refine va_calli (A0 := jA base) (H0 := s.heap) (va_runSN (As := [.ref tx_, .int v2_1, .int pl]) (rest := []) ⟨hx, hb, hml, hown, hts⟩ (uX11_commentEndPt9 l dC dI ca base B hB hAp hB101 hB173 G0 H_5 tx_ v2_1 pl 1500 ft) ⟨va_cnB 3 hts (jgW (jWr_36 _ (List.mem_of_getElem? (i := 11) rfl))) rfl rfl rfl (hG.2.2.1 RX1 91 yX11_commentEnd "ProofServer" (List.mem_of_getElem? (i := 1120) (by decide +kernel))) (htw (.initialized RX11) (jWr_1 _ (List.mem_of_getElem? (i := 2) rfl))) (by decide +kernel) ⟨by rw [← hR]; exact Nat.le_of_ble_eq_true rfl, by rw [← hR]; exact Nat.le_of_ble_eq_true rfl⟩, htw (.static yX11_commentEnd) (jWr_36 _ (List.mem_of_getElem? (i := 10) rfl)), trivial⟩ ⟨fun a U g mk q => by obtain ⟨q0, q1, q2, qK, q10, q11, q12, q13⟩ := q; exact ⟨q0, q1, q2, jG.calling g mk a qK, q10, q11, q12, q13⟩, fun U hU hW => ⟨rfl, hU, hh_5.2.1, hG.step hW hU hh_5.1, hg_tx_, jP.nil, (hh_5.2.2.2.2.2.2.2.1.sub (L1 := [(tx_, 173, 1500, ca 1, ft)]) [0] rfl), by first | omega | (refine ⟨?_, ?_, ?_, ?_⟩ <;> (first | omega | rfl | assumption | decide | exact Or.inl rfl | exact Or.inr rfl | (simp only; omega)))⟩⟩ rfl rfl hl.1 rfl (lv_room (Nat.le_of_ble_eq_true rfl)) dX1_sentenceBegin_47 ⟨Nat.zero_le _, Nat.zero_le _⟩) hh_5.1 (fun q _ h => h) (fun q h => h) (fun r_9 u_8 t_8 H_8 locs_8 ht_8 hvm_8 hr_9 hb_8 hz_8 hk_8 hS_8 => ?_)
            rw [ht_8] at hb_8
            obtain ⟨hb_81, hb_82, hb_83, hb_84, hb_85⟩ := hb_8
            have hh_8 : jSt (dC, dI) B base G0 G0 EX1_sentenceBeginP s.heap 0 0 [(r0, 3, 3, .int pl), (r0, 3, 2, .ref tx_)] [(tx_, 173, 1500, ca 1, ft)] [] H_8 locs_8 := ((hh_5.call hb_81 hb_82 hb_83 hb_84 hS_8 rfl (L1 := [(r0, 3, 3, .int pl), (r0, 3, 2, .ref tx_)]) [0, 1] rfl rfl (M1 := [(tx_, 173, 1500, ca 1, ft)]) [0] rfl rfl (I1 := []) [] rfl rfl).more hb_85)
            clear hh_5 ht_8 hvm_8 hz_8 hk_8 hS_8 hb_81 hb_82 hb_83 hb_84 hb_85
            obtain ⟨hr_9_0, hr_9_1⟩ := hr_9
            refine lv_istore (lv' := [(4, .int r_9), (0, .ref r0), (1, .int a1), (2, .int v2_1), (3, .int v3_1)]) hx hb dX1_sentenceBegin_50 hl (by decide) rfl (fun ls hl => ?_)
            refine lv_iload hx hb dX1_sentenceBegin_52 (lv_at hl 0 rfl) ?_
            refine lv_if_ge (tgt := 59) hx hb dX1_sentenceBegin_54 (by decide) (fun c_10 => ?_) (fun c_10 => ?_)
            · skip
              have c_10' : r_9.toInt ≥ 0 := jb_ge (rfl) ((by decide)) c_10
              first | (have hr_9_1q := hr_9_1.resolve_left (by omega); clear hr_9_1) | (have hr_9_1q := hr_9_1.resolve_right (by omega); clear hr_9_1) | skip
              refine lv_iload hx hb dX1_sentenceBegin_59 (lv_at hl 0 rfl) ?_
              refine lv_istore_n (lv' := [(2, .int r_9), (4, .int r_9), (0, .ref r0), (1, .int a1), (3, .int v3_1)]) hx hb dX1_sentenceBegin_61 rfl hl (by decide) rfl (fun ls hl => ?_)
              obtain ⟨z_11, ez_11⟩ : ∃ y : Int32, y = v3_1 + 1 := ⟨_, rfl⟩
              refine lv_iinc (v := z_11) (lv' := [(3, .int z_11), (2, .int r_9), (4, .int r_9), (0, .ref r0), (1, .int a1)]) hx hb dX1_sentenceBegin_62 hl (k := 4) rfl (by rw [ez_11]; rfl) (by decide) rfl (fun ls hl => ?_)
              have hz_11 : z_11.toInt = v3_1.toInt + 1 := by rw [ez_11]; exact jb_iadd2 (rfl) (by decide) (by omega)
              refine lv_goto (tgt := 4) hx hb dX1_sentenceBegin_65 (by decide) ?_
              exact L4 r_9 z_11 (kf - 1) _ _ hh_8 (by refine ⟨by omega, by omega, by omega, by omega, by omega, ?_⟩; first | exact (jGa_b (by omega) (by omega) (by rw [← hqz_4, ← hr_6p]; omega) (by omega)).trans hi_1_5 | exact (jGa_c (by omega) (by omega) (by rw [← hqz_4, ← hr_6p]; omega) (jCe.yes hr_9_0 (by omega)).1 (by omega) (jCe.yes hr_9_0 (by omega)).2).trans hi_1_5) (by omega) _ (lv_sub hl [3, 4, 1, 0] rfl)
            · skip
              have c_10' : r_9.toInt < 0 := jb_ge_n (rfl) ((by decide)) c_10
              first | (have hr_9_1q := hr_9_1.resolve_left (by omega); clear hr_9_1) | (have hr_9_1q := hr_9_1.resolve_right (by omega); clear hr_9_1) | skip
              refine lv_iload_n hx hb dX1_sentenceBegin_57 rfl (lv_at hl 3 rfl) ?_
              rw [hQ]
              exact W.iret (v := v2_1) hx hb hr (fun t ht hW => ⟨⟨v2_1, (), rfl, by refine ⟨?_, by omega, by omega⟩; exact (jGa_x (by omega) (by omega) (by rw [← hqz_4, ← hr_6p]; omega) (jCe.no hr_9_0 (by omega)) rfl).trans hi_1_5, hh_8.rt (M1 := []) [] rfl ht⟩, by rw [ht]; try exact hh_8.1.1, fun q h9 hq => by rw [ht]; try exact hh_8.1.2.1 q h9 hq⟩) hh_8.1.2.2 dX1_sentenceBegin_58
          · skip
            have c_7' : r_6.toInt ≠ 0 := jb_eq_n (rfl) ((by decide)) c_7
            obtain ⟨z_12, ez_12⟩ : ∃ y : Int32, y = v2_1 + 1 := ⟨_, rfl⟩
            refine lv_iinc (v := z_12) (lv' := [(2, .int z_12), (0, .ref r0), (1, .int a1), (3, .int v3_1)]) hx hb dX1_sentenceBegin_32 hl (k := 2) rfl (by rw [ez_12]; rfl) (by decide) rfl (fun ls hl => ?_)
            have hz_12 : z_12.toInt = v2_1.toInt + 1 := by rw [ez_12]; exact jb_iadd2 (rfl) (by decide) (by omega)
            refine lv_goto (tgt := 62) hx hb dX1_sentenceBegin_35 (by decide) ?_
            obtain ⟨z_13, ez_13⟩ : ∃ y : Int32, y = v3_1 + 1 := ⟨_, rfl⟩
            refine lv_iinc (v := z_13) (lv' := [(3, .int z_13), (2, .int z_12), (0, .ref r0), (1, .int a1)]) hx hb dX1_sentenceBegin_62 hl (k := 3) rfl (by rw [ez_13]; rfl) (by decide) rfl (fun ls hl => ?_)
            have hz_13 : z_13.toInt = v3_1.toInt + 1 := by rw [ez_13]; exact jb_iadd2 (rfl) (by decide) (by omega)
            refine lv_goto (tgt := 4) hx hb dX1_sentenceBegin_65 (by decide) ?_
            exact L4 z_12 z_13 (kf - 1) _ _ hh_5 (by refine ⟨by omega, by omega, by omega, by omega, by omega, ?_⟩; first | exact (jGa_b (by omega) (by omega) (by rw [← hqz_4, ← hr_6p]; omega) (by omega)).trans hi_1_5 | exact (jGa_c (by omega) (by omega) (by rw [← hqz_4, ← hr_6p]; omega) (jCe.yes (zz_none) (by omega)).1 (by omega) (jCe.yes (zz_none) (by omega)).2).trans hi_1_5) (by omega) _ (lv_sub hl [2, 3, 1, 0] rfl)
  exact L4 (pl.toInt - (a1 : Int32).toInt : Int).toNat.succ a1 0 ((pl.toInt - a1.toInt).toNat + 1) _ _ hh (by refine ⟨by omega, by omega, by omega, by omega, by omega, rfl⟩) (by omega) _ (lv_sub hl [2, 3, 1, 0] rfl)
set_option maxHeartbeats 4000000 in
set_option maxRecDepth 20000 in
theorem uX1_sentenceEndP (l : Launch) (dC : Nat → ClassId) (dI : Nat → Nat → Nat) (ca : Nat → ClassId) (base : Nat) (B : jF) (hB : jBok B) (hAp : jAp (dC, dI)) (hB3 : ∀ n G a H, B 3 n G a H ↔ jOb (dC, dI) 3 17 (F3 n G) a H) (hB101 : ∀ n G a H, B 101 n G a H ↔ jAr (dC, dI) (ca 1) (fun j z => True) n a H) (hB173 : ∀ n G a H, B 173 n G a H ↔ jAr (dC, dI) (ca 1) (fun j z => True) n a H) (G0 : jT) (H0 : Heap) (r0 : Nat) (a1 : Int32) (n0 : Nat) (pl : Int32) (tx_ : Nat) (ft : Nat → Int32) : Met l yX1_sentenceEnd (jw yX1_sentenceEnd cX1_sentenceEnd 5 (some .int)) ({ frames := 2, cells := 0, slots := 0, locals := 46 }) (va_Pc [.ref r0, .int a1] (fun U => U.heap = H0 ∧ jX B base G0 [] H0 ∧ jG dC dI ca base U ∧ G0 r0 = some (3, n0) ∧ G0 tx_ = some (173, 1500) ∧ jP (dC, dI) G0 H0 [(r0, 3, 3, .int pl), (r0, 3, 2, .ref tx_)] ∧ jMc (dC, dI) G0 H0 [(tx_, 173, 1500, ca 1, ft)] ∧ 0 ≤ a1.toInt ∧ a1.toInt < pl.toInt ∧ pl.toInt ≤ 1500)) (va_Qi (S := Unit) (fun r u => (r.toInt = jSen ft pl.toInt a1.toInt ∧ (r.toInt = -1 ∨ (a1.toInt < r.toInt ∧ r.toInt ≤ pl.toInt)))) (fun u t => jRt (dC, dI) B base G0 EX1_sentenceEndP H0 [] t.heap) (jA base)) 0 0 (jA base) := by
  refine Met.ofW (cc := cX1_sentenceEnd) (maxL := 5) (ret := (some .int)) (by decide) rfl ?_
  intro p e s m args below meth c s₁ Bd hml hv
  obtain ⟨rfl, hH0, hX, hG, hg_r0, hg_tx_, hP0, hM0, hp0, hp1, hp2⟩ := hv
  have hK := hG.1
  have hx := Bd.exec
  have hb := Bd.bytes
  have hr := Bd.returns
  have hts := atoms_spec (ws := (jw yX1_sentenceEnd cX1_sentenceEnd 5 (some .int))) Bd.pre
  have htw : ∀ w ∈ jWl, w.before _ s = true := fun w h => hts w (List.mem_cons_of_mem _ h)
  have hown : s.vm.findClass RX1 = some m.cls := findClass_of_methodNamed Bd.named
  have hlocks := Bd.notSynchronized
  obtain ⟨Q, hQ⟩ : ∃ Q, Q = MQ below (va_Qi (S := Unit) (fun r u => (r.toInt = jSen ft pl.toInt a1.toInt ∧ (r.toInt = -1 ∨ (a1.toInt < r.toInt ∧ r.toInt ≤ pl.toInt)))) (fun u t => jRt (dC, dI) B base G0 EX1_sentenceEndP H0 [] t.heap) (jA base)) ([.ref r0, .int a1] : List Value).toArray s 0 0 (jA base) := ⟨_, rfl⟩
  rw [← hQ]
  have hl := lv_entry ([.ref r0, .int a1]) (n := 5) (Nat.le_of_ble_eq_true rfl)
  rw [lg_entry_eq]
  generalize (lg_sl ([.ref r0, .int a1]) ++ List.replicate (5 - (lg_sl ([.ref r0, .int a1])).length) Slot.unset).toArray = ls at hl ⊢
  have hl : lv_has ls 5 [(0, .ref r0), (1, .int a1)] := hl
  generalize hR : (headSpec (jw yX1_sentenceEnd cX1_sentenceEnd 5 (some .int)) ({ frames := 2, cells := 0, slots := 0, locals := 46 })).room = R
  subst hH0
  have hh : jSt (dC, dI) B base G0 G0 EX1_sentenceEndP s.heap 0 0 [(r0, 3, 3, .int pl), (r0, 3, 2, .ref tx_)] [(tx_, 173, 1500, ca 1, ft)] [] s.heap [] := jSt.start hX hP0 hM0 jIs.nil
  clear hX hP0
  have hkm1 : ((-1) : Int32).toInt = (-1) := by decide
  have hk0 : (0 : Int32).toInt = 0 := by decide
  have hk1 : (1 : Int32).toInt = 1 := by decide
  have hk46 : (46 : Int32).toInt = 46 := by decide
  have hly_3_2 := htw (u_lay RX1 TX1 2) (jWc_wsX10 _ (u_in_lay (by decide)))
  have hly_3_3 := htw (u_lay RX1 TX1 3) (jWc_wsX10 _ (u_in_lay (by decide)))
  have hlk_42 := (htw (.fieldLink RX1 42 "ProofServer$Document" "length" "I") (jWr_29 _ (List.mem_of_getElem? (i := 5) rfl)))
  have hlk_15 := (htw (.fieldLink RX1 15 "ProofServer$Document" "text" "[I") (jWr_10 _ (List.mem_of_getElem? (i := 6) rfl)))
  have hrg_a1 := jb_rng a1
  refine lv_iload_n hx hb dX1_sentenceEnd_0 rfl (lv_at hl 1 rfl) ?_
  refine lv_istore_n (lv' := [(2, .int a1), (0, .ref r0), (1, .int a1)]) hx hb dX1_sentenceEnd_1 rfl hl (by decide) rfl (fun ls hl => ?_)
  refine lv_iconst (v := 0) hx hb dX1_sentenceEnd_2 (by decide) ?_
  refine lv_istore_n (lv' := [(3, .int 0), (2, .int a1), (0, .ref r0), (1, .int a1)]) hx hb dX1_sentenceEnd_3 rfl hl (by decide) rfl (fun ls hl => ?_)
  have L4 : ∀ (N : Nat) (v2_1 : Int32) (v3_1 : Int32) (kf : Nat) (H_1 : Heap) (locs_1 : List Loc), jSt (dC, dI) B base G0 G0 EX1_sentenceEndP s.heap 0 0 [(r0, 3, 3, .int pl), (r0, 3, 2, .ref tx_)] [(tx_, 173, 1500, ca 1, ft)] [] H_1 locs_1 → (a1.toInt ≤ v2_1.toInt ∧ v2_1.toInt ≤ pl.toInt ∧ 0 ≤ v3_1.toInt ∧ v3_1.toInt ≤ v2_1.toInt ∧ pl.toInt - v2_1.toInt < kf ∧ jSx ft pl.toInt kf v2_1.toInt = jSen ft pl.toInt a1.toInt) → (pl.toInt - v2_1.toInt : Int) < N → ∀ ls : Array Slot, lv_has ls 5 [(0, .ref r0), (1, .int a1), (2, .int v2_1), (3, .int v3_1)] → W p l e R s m ([.ref r0, .int a1] : List Value).toArray below meth c H_1 locs_1 0 0 Q (F0 m 4 ls []) := by
    intro N
    induction N with
    | zero => intro v2_1 v3_1 kf H_1 locs_1 hh_1  hi_1 hm; exact absurd hm (by omega)
    | succ N L4 =>
      intro v2_1 v3_1 kf H_1 locs_1 hh_1  hi_1 hm_1 ls hl
      obtain ⟨hi_1_0, hi_1_1, hi_1_2, hi_1_3, hi_1_4, hi_1_5⟩ := hi_1
      refine lv_iload_n hx hb dX1_sentenceEnd_4 rfl (lv_at hl 3 rfl) ?_
      refine lv_aload_n hx hb dX1_sentenceEnd_5 rfl (lv_at hl 0 rfl) ?_
      refine j7_read hx hb hown hK (C := RX1) (T := TX1) (N := 17) rfl hly_3_3 hlk_42 (hh_1.at 0 rfl) dX1_sentenceEnd_6 ?_
      refine lv_icmp_gt (tgt := 123) hx hb dX1_sentenceEnd_9 (by decide) (fun c_2 => ?_) (fun c_2 => ?_)
      · skip
        have c_2' : v3_1.toInt > pl.toInt := jb_gt (rfl) (rfl) c_2
        exact absurd c_2' (by omega)
      · skip
        have c_2' : v3_1.toInt ≤ pl.toInt := jb_gt_n (rfl) (rfl) c_2
        refine lv_iload_n hx hb dX1_sentenceEnd_12 rfl (lv_at hl 2 rfl) ?_
        refine lv_aload_n hx hb dX1_sentenceEnd_13 rfl (lv_at hl 0 rfl) ?_
        refine j7_read hx hb hown hK (C := RX1) (T := TX1) (N := 17) rfl hly_3_3 hlk_42 (hh_1.at 0 rfl) dX1_sentenceEnd_14 ?_
        refine lv_icmp_ge (tgt := 123) hx hb dX1_sentenceEnd_17 (by decide) (fun c_3 => ?_) (fun c_3 => ?_)
        · skip
          have c_3' : v2_1.toInt ≥ pl.toInt := jb_ge (rfl) (rfl) c_3
          refine lv_iconst (v := (-1)) hx hb dX1_sentenceEnd_123 (by decide) ?_
          rw [hQ]
          exact W.iret (v := (-1)) hx hb hr (fun t ht hW => ⟨⟨(-1), (), rfl, by refine ⟨?_, by omega⟩; exact (jSx_o (by omega) (by omega) hkm1).trans hi_1_5, hh_1.rt (M1 := []) [] rfl ht⟩, by rw [ht]; try exact hh_1.1.1, fun q h9 hq => by rw [ht]; try exact hh_1.1.2.1 q h9 hq⟩) hh_1.1.2.2 dX1_sentenceEnd_124
        · skip
          have c_3' : v2_1.toInt < pl.toInt := jb_ge_n (rfl) (rfl) c_3
          refine lv_aload_n hx hb dX1_sentenceEnd_20 rfl (lv_at hl 0 rfl) ?_
          refine j7_read hx hb hown hK (C := RX1) (T := TX1) (N := 17) rfl hly_3_2 hlk_15 (hh_1.at 1 rfl) dX1_sentenceEnd_21 ?_
          refine lv_iload_n hx hb dX1_sentenceEnd_24 rfl (lv_at hl 2 rfl) ?_
          refine lv_aload_n hx hb dX1_sentenceEnd_25 rfl (lv_at hl 0 rfl) ?_
          refine j7_read hx hb hown hK (C := RX1) (T := TX1) (N := 17) rfl hly_3_3 hlk_42 (hh_1.at 0 rfl) dX1_sentenceEnd_26 ?_
          refine va_calli (A0 := jA base) (H0 := s.heap) (va_runSN (As := [.ref tx_, .int v2_1, .int pl]) (rest := []) ⟨hx, hb, hml, hown, hts⟩ (uX11_opensCommentPt9 l dC dI ca base B hB hAp hB173 G0 H_1 tx_ v2_1 pl 1500 ft) ⟨va_cnB 3 hts (jgW (jWr_36 _ (List.mem_of_getElem? (i := 14) rfl))) rfl rfl rfl (hG.2.2.1 RX1 94 yX11_opensComment "ProofServer" (List.mem_of_getElem? (i := 1130) (by decide +kernel))) (htw (.initialized RX11) (jWr_1 _ (List.mem_of_getElem? (i := 2) rfl))) (by decide +kernel) ⟨by rw [← hR]; exact Nat.le_of_ble_eq_true rfl, by rw [← hR]; exact Nat.le_of_ble_eq_true rfl⟩, htw (.static yX11_opensComment) (jWr_36 _ (List.mem_of_getElem? (i := 13) rfl)), trivial⟩ ⟨fun a U g mk q => by obtain ⟨q0, q1, q2, qK, q10, q11, q12, q13⟩ := q; exact ⟨q0, q1, q2, jG.calling g mk a qK, q10, q11, q12, q13⟩, fun U hU hW => ⟨rfl, hU, hh_1.2.1, hG.step hW hU hh_1.1, hg_tx_, jP.nil, (hh_1.2.2.2.2.2.2.2.1.sub (L1 := [(tx_, 173, 1500, ca 1, ft)]) [0] rfl), by first | omega | (refine ⟨?_, ?_, ?_, ?_⟩ <;> (first | omega | rfl | assumption | decide | exact Or.inl rfl | exact Or.inr rfl | (simp only; omega)))⟩⟩ rfl rfl hl.1 rfl (lv_room (Nat.le_of_ble_eq_true rfl)) dX1_sentenceEnd_29 ⟨Nat.zero_le _, Nat.zero_le _⟩) hh_1.1 (fun q _ h => h) (fun q h => h) (fun r_5 u_4 t_4 H_4 locs_4 ht_4 hvm_4 hr_5 hb_4 hz_4 hk_4 hS_4 => ?_)
          rw [ht_4] at hb_4
          obtain ⟨hb_41, hb_42, hb_43, hb_44, hb_45⟩ := hb_4
          have hh_4 : jSt (dC, dI) B base G0 G0 EX1_sentenceEndP s.heap 0 0 [(r0, 3, 3, .int pl), (r0, 3, 2, .ref tx_)] [(tx_, 173, 1500, ca 1, ft)] [] H_4 locs_4 := ((hh_1.call hb_41 hb_42 hb_43 hb_44 hS_4 rfl (L1 := [(r0, 3, 3, .int pl), (r0, 3, 2, .ref tx_)]) [0, 1] rfl rfl (M1 := [(tx_, 173, 1500, ca 1, ft)]) [0] rfl rfl (I1 := []) [] rfl rfl).more hb_45)
          clear hh_1 ht_4 hvm_4 hz_4 hk_4 hS_4 hb_41 hb_42 hb_43 hb_44 hb_45
          obtain ⟨hr_5b, hr_5p⟩ := hr_5
          obtain ⟨hr_5p_0, hr_5p_1⟩ := hr_5p
          have hr_5' := jb_01 hr_5b
          refine lv_if_eq (tgt := 54) hx hb dX1_sentenceEnd_32 (by decide) (fun c_6 => ?_) (fun c_6 => ?_)
          · skip
            have c_6' : r_5.toInt = 0 := jb_eq (rfl) ((by decide)) c_6
            first | (have hr_5p_1q := hr_5p_1.resolve_left (by omega); clear hr_5p_1) | (have hr_5p_1q := hr_5p_1.resolve_right (by omega); clear hr_5p_1) | try clear hr_5p_1
            refine lv_aload_n hx hb dX1_sentenceEnd_54 rfl (lv_at hl 0 rfl) ?_
            refine j7_read hx hb hown hK (C := RX1) (T := TX1) (N := 17) rfl hly_3_2 hlk_15 (hh_4.at 1 rfl) dX1_sentenceEnd_55 ?_
            refine lv_iload_n hx hb dX1_sentenceEnd_58 rfl (lv_at hl 2 rfl) ?_
            refine j7_ialdM hx hb hK hh_4 hB173 1 rfl (by decide) hg_tx_ (x := v2_1.toInt) (rfl) (by omega) (j := 0) rfl dX1_sentenceEnd_59 (fun z_7 ez_7 (hz_7 : True) => ?_)
            have hqz_7 : z_7.toInt = jSo ft (v2_1.toInt) := by unfold jSo; rw [ez_7]
            refine lv_bipush (v := 46) hx hb dX1_sentenceEnd_60 (by decide) ?_
            refine lv_icmp_ne (tgt := 69) hx hb dX1_sentenceEnd_62 (by decide) (fun c_8 => ?_) (fun c_8 => ?_)
            · skip
              have c_8' : z_7.toInt ≠ 46 := jb_ne (rfl) ((by decide)) c_8
              refine lv_iconst (v := 0) hx hb dX1_sentenceEnd_69 (by decide) ?_
              refine lv_istore (lv' := [(4, .int 0), (0, .ref r0), (1, .int a1), (2, .int v2_1), (3, .int v3_1)]) hx hb dX1_sentenceEnd_70 hl (by decide) rfl (fun ls hl => ?_)
              obtain ⟨z_9, ez_9⟩ : ∃ y : Int32, y = v2_1 + 1 := ⟨_, rfl⟩
              refine lv_iinc (v := z_9) (lv' := [(2, .int z_9), (4, .int 0), (0, .ref r0), (1, .int a1), (3, .int v3_1)]) hx hb dX1_sentenceEnd_72 hl (k := 3) rfl (by rw [ez_9]; rfl) (by decide) rfl (fun ls hl => ?_)
              have hz_9 : z_9.toInt = v2_1.toInt + 1 := by rw [ez_9]; exact jb_iadd2 (rfl) (by decide) (by omega)
              refine lv_iload hx hb dX1_sentenceEnd_75 (lv_at hl 1 rfl) ?_
              refine lv_if_eq (tgt := 117) hx hb dX1_sentenceEnd_77 (by decide) (fun c_10 => ?_) (fun c_10 => ?_)
              · skip
                obtain ⟨z_11, ez_11⟩ : ∃ y : Int32, y = v3_1 + 1 := ⟨_, rfl⟩
                refine lv_iinc (v := z_11) (lv' := [(3, .int z_11), (2, .int z_9), (4, .int 0), (0, .ref r0), (1, .int a1)]) hx hb dX1_sentenceEnd_117 hl (k := 4) rfl (by rw [ez_11]; rfl) (by decide) rfl (fun ls hl => ?_)
                have hz_11 : z_11.toInt = v3_1.toInt + 1 := by rw [ez_11]; exact jb_iadd2 (rfl) (by decide) (by omega)
                refine lv_goto (tgt := 4) hx hb dX1_sentenceEnd_120 (by decide) ?_
                exact L4 z_9 z_11 (kf - 1) _ _ hh_4 (by refine ⟨by omega, by omega, by omega, by omega, by omega, ?_⟩; first | exact (jSx_c (by omega) (by omega) (by omega) (by omega) (jCe.op (zz_none) (by omega))).trans hi_1_5 | exact (jSx_n (by omega) (by omega) (by omega) (jDt_0 (by first | exact Or.inl (by rw [← hqz_7]; omega) | exact Or.inr ⟨by omega, (by rw [← (zz_none), ← (zz_none)]; omega), by omega⟩)) (by omega)).trans hi_1_5) (by omega) _ (lv_sub hl [3, 4, 1, 0] rfl)
              · skip
                exact absurd c_10 (by decide)
            · skip
              have c_8' : z_7.toInt = 46 := jb_ne_n (rfl) ((by decide)) c_8
              refine lv_iconst (v := 1) hx hb dX1_sentenceEnd_65 (by decide) ?_
              refine lv_goto (tgt := 70) hx hb dX1_sentenceEnd_66 (by decide) ?_
              refine lv_istore (lv' := [(4, .int 1), (0, .ref r0), (1, .int a1), (2, .int v2_1), (3, .int v3_1)]) hx hb dX1_sentenceEnd_70 hl (by decide) rfl (fun ls hl => ?_)
              obtain ⟨z_12, ez_12⟩ : ∃ y : Int32, y = v2_1 + 1 := ⟨_, rfl⟩
              refine lv_iinc (v := z_12) (lv' := [(2, .int z_12), (4, .int 1), (0, .ref r0), (1, .int a1), (3, .int v3_1)]) hx hb dX1_sentenceEnd_72 hl (k := 3) rfl (by rw [ez_12]; rfl) (by decide) rfl (fun ls hl => ?_)
              have hz_12 : z_12.toInt = v2_1.toInt + 1 := by rw [ez_12]; exact jb_iadd2 (rfl) (by decide) (by omega)
              refine lv_iload hx hb dX1_sentenceEnd_75 (lv_at hl 1 rfl) ?_
              refine lv_if_eq (tgt := 117) hx hb dX1_sentenceEnd_77 (by decide) (fun c_13 => ?_) (fun c_13 => ?_)
              · skip
                exact absurd c_13 (by decide)
              · skip
                refine lv_iload_n hx hb dX1_sentenceEnd_80 rfl (lv_at hl 0 rfl) ?_
                refine lv_aload_n hx hb dX1_sentenceEnd_81 rfl (lv_at hl 2 rfl) ?_
                refine j7_read hx hb hown hK (C := RX1) (T := TX1) (N := 17) rfl hly_3_3 hlk_42 (hh_4.at 0 rfl) dX1_sentenceEnd_82 ?_
                refine lv_icmp_eq (tgt := 115) hx hb dX1_sentenceEnd_85 (by decide) (fun c_14 => ?_) (fun c_14 => ?_)
                · skip
                  have c_14' : z_12.toInt = pl.toInt := jb_eq (rfl) (rfl) c_14
                  refine lv_iload_n hx hb dX1_sentenceEnd_115 rfl (lv_at hl 0 rfl) ?_
                  rw [hQ]
                  exact W.iret (v := z_12) hx hb hr (fun t ht hW => ⟨⟨z_12, (), rfl, by refine ⟨?_, by omega⟩; exact (jSx_d (by omega) (by omega) (by omega) (jDt_1 (by rw [← hqz_7]; omega) (by first | exact Or.inl (by omega) | exact Or.inr (Or.inl (by rw [← (zz_none), ← (zz_none)]; omega)) | exact Or.inr (Or.inr (by rw [ho109]; omega)))) (by omega)).trans hi_1_5, hh_4.rt (M1 := []) [] rfl ht⟩, by rw [ht]; try exact hh_4.1.1, fun q h9 hq => by rw [ht]; try exact hh_4.1.2.1 q h9 hq⟩) hh_4.1.2.2 dX1_sentenceEnd_116
                · skip
                  have c_14' : z_12.toInt ≠ pl.toInt := jb_eq_n (rfl) (rfl) c_14
                  refine lv_aload_n hx hb dX1_sentenceEnd_88 rfl (lv_at hl 2 rfl) ?_
                  refine j7_read hx hb hown hK (C := RX1) (T := TX1) (N := 17) rfl hly_3_2 hlk_15 (hh_4.at 1 rfl) dX1_sentenceEnd_89 ?_
                  refine lv_iload_n hx hb dX1_sentenceEnd_92 rfl (lv_at hl 0 rfl) ?_
                  refine j7_ialdM hx hb hK hh_4 hB173 1 rfl (by decide) hg_tx_ (x := z_12.toInt) (rfl) (by omega) (j := 0) rfl dX1_sentenceEnd_93 (fun z_15 ez_15 (hz_15 : True) => ?_)
                  have hqz_15 : z_15.toInt = jSo ft ((v2_1.toInt + 1)) := by unfold jSo; rw [ez_15, show z_12.toInt = (v2_1.toInt + 1) by omega]
                  refine va_calli (A0 := jA base) (H0 := s.heap) (va_runSN (As := [.int z_15]) (rest := []) ⟨hx, hb, hml, hown, hts⟩ (uX11_isBlankP l dC dI ca base B hB hAp G0 H_4 z_15) ⟨va_cnB 1 hts (jgW (jWr_20 _ (List.mem_of_getElem? (i := 0) rfl))) rfl rfl rfl (hG.2.2.1 RX1 87 yX11_isBlank "ProofServer" (List.mem_of_getElem? (i := 1119) (by decide +kernel))) (htw (.initialized RX11) (jWr_1 _ (List.mem_of_getElem? (i := 2) rfl))) (by decide +kernel) ⟨by rw [← hR]; exact Nat.le_of_ble_eq_true rfl, by rw [← hR]; exact Nat.le_of_ble_eq_true rfl⟩, htw (.static yX11_isBlank) (jWr_19 _ (List.mem_of_getElem? (i := 23) rfl)), trivial⟩ ⟨fun a U g mk q => by obtain ⟨q0, q1, q2, qK, q10, q11⟩ := q; exact ⟨q0, q1, q2, jG.calling g mk a qK, q10, q11⟩, fun U hU hW => ⟨rfl, hU, hh_4.2.1, hG.step hW hU hh_4.1, jP.nil, trivial⟩⟩ rfl rfl hl.1 rfl (lv_room (Nat.le_of_ble_eq_true rfl)) dX1_sentenceEnd_94 ⟨Nat.zero_le _, Nat.zero_le _⟩) hh_4.1 (fun q _ h => h) (fun q h => h) (fun r_17 u_16 t_16 H_16 locs_16 ht_16 hvm_16 hr_17 hb_16 hz_16 hk_16 hS_16 => ?_)
                  rw [ht_16] at hb_16
                  obtain ⟨hb_161, hb_162, hb_163, hb_164, hb_165⟩ := hb_16
                  have hh_16 : jSt (dC, dI) B base G0 G0 EX1_sentenceEndP s.heap 0 0 [(r0, 3, 3, .int pl), (r0, 3, 2, .ref tx_)] [(tx_, 173, 1500, ca 1, ft)] [] H_16 locs_16 := ((hh_4.call hb_161 hb_162 hb_163 hb_164 hS_16 rfl (L1 := [(r0, 3, 3, .int pl), (r0, 3, 2, .ref tx_)]) [0, 1] rfl rfl (M1 := [(tx_, 173, 1500, ca 1, ft)]) [0] rfl rfl (I1 := []) [] rfl rfl).more hb_165)
                  clear hh_4 ht_16 hvm_16 hz_16 hk_16 hS_16 hb_161 hb_162 hb_163 hb_164 hb_165
                  obtain ⟨hr_17b, hr_17p⟩ := hr_17
                  have hr_17' := jb_01 hr_17b
                  refine lv_if_ne (tgt := 115) hx hb dX1_sentenceEnd_97 (by decide) (fun c_18 => ?_) (fun c_18 => ?_)
                  · skip
                    have c_18' : r_17.toInt ≠ 0 := jb_ne (rfl) ((by decide)) c_18
                    refine lv_iload_n hx hb dX1_sentenceEnd_115 rfl (lv_at hl 0 rfl) ?_
                    rw [hQ]
                    exact W.iret (v := z_12) hx hb hr (fun t ht hW => ⟨⟨z_12, (), rfl, by refine ⟨?_, by omega⟩; exact (jSx_d (by omega) (by omega) (by omega) (jDt_1 (by rw [← hqz_7]; omega) (by first | exact Or.inl (by omega) | exact Or.inr (Or.inl (by rw [← hqz_15, ← hr_17p]; omega)) | exact Or.inr (Or.inr (by rw [ho109]; omega)))) (by omega)).trans hi_1_5, hh_16.rt (M1 := []) [] rfl ht⟩, by rw [ht]; try exact hh_16.1.1, fun q h9 hq => by rw [ht]; try exact hh_16.1.2.1 q h9 hq⟩) hh_16.1.2.2 dX1_sentenceEnd_116
                  · skip
                    have c_18' : r_17.toInt = 0 := jb_ne_n (rfl) ((by decide)) c_18
                    refine lv_aload_n hx hb dX1_sentenceEnd_100 rfl (lv_at hl 2 rfl) ?_
                    refine j7_read hx hb hown hK (C := RX1) (T := TX1) (N := 17) rfl hly_3_2 hlk_15 (hh_16.at 1 rfl) dX1_sentenceEnd_101 ?_
                    refine lv_iload_n hx hb dX1_sentenceEnd_104 rfl (lv_at hl 0 rfl) ?_
                    refine lv_aload_n hx hb dX1_sentenceEnd_105 rfl (lv_at hl 2 rfl) ?_
                    refine j7_read hx hb hown hK (C := RX1) (T := TX1) (N := 17) rfl hly_3_3 hlk_42 (hh_16.at 0 rfl) dX1_sentenceEnd_106 ?_
                    refine va_calli (A0 := jA base) (H0 := s.heap) (va_runSN (As := [.ref tx_, .int z_12, .int pl]) (rest := []) ⟨hx, hb, hml, hown, hts⟩ (uX11_opensCommentPt9 l dC dI ca base B hB hAp hB173 G0 H_16 tx_ z_12 pl 1500 ft) ⟨va_cnB 3 hts (jgW (jWr_36 _ (List.mem_of_getElem? (i := 14) rfl))) rfl rfl rfl (hG.2.2.1 RX1 94 yX11_opensComment "ProofServer" (List.mem_of_getElem? (i := 1130) (by decide +kernel))) (htw (.initialized RX11) (jWr_1 _ (List.mem_of_getElem? (i := 2) rfl))) (by decide +kernel) ⟨by rw [← hR]; exact Nat.le_of_ble_eq_true rfl, by rw [← hR]; exact Nat.le_of_ble_eq_true rfl⟩, htw (.static yX11_opensComment) (jWr_36 _ (List.mem_of_getElem? (i := 13) rfl)), trivial⟩ ⟨fun a U g mk q => by obtain ⟨q0, q1, q2, qK, q10, q11, q12, q13⟩ := q; exact ⟨q0, q1, q2, jG.calling g mk a qK, q10, q11, q12, q13⟩, fun U hU hW => ⟨rfl, hU, hh_16.2.1, hG.step hW hU hh_16.1, hg_tx_, jP.nil, (hh_16.2.2.2.2.2.2.2.1.sub (L1 := [(tx_, 173, 1500, ca 1, ft)]) [0] rfl), by first | omega | (refine ⟨?_, ?_, ?_, ?_⟩ <;> (first | omega | rfl | assumption | decide | exact Or.inl rfl | exact Or.inr rfl | (simp only; omega)))⟩⟩ rfl rfl hl.1 rfl (lv_room (Nat.le_of_ble_eq_true rfl)) dX1_sentenceEnd_109 ⟨Nat.zero_le _, Nat.zero_le _⟩) hh_16.1 (fun q _ h => h) (fun q h => h) (fun r_20 u_19 t_19 H_19 locs_19 ht_19 hvm_19 hr_20 hb_19 hz_19 hk_19 hS_19 => ?_)
                    rw [ht_19] at hb_19
                    obtain ⟨hb_191, hb_192, hb_193, hb_194, hb_195⟩ := hb_19
                    have hh_19 : jSt (dC, dI) B base G0 G0 EX1_sentenceEndP s.heap 0 0 [(r0, 3, 3, .int pl), (r0, 3, 2, .ref tx_)] [(tx_, 173, 1500, ca 1, ft)] [] H_19 locs_19 := ((hh_16.call hb_191 hb_192 hb_193 hb_194 hS_19 rfl (L1 := [(r0, 3, 3, .int pl), (r0, 3, 2, .ref tx_)]) [0, 1] rfl rfl (M1 := [(tx_, 173, 1500, ca 1, ft)]) [0] rfl rfl (I1 := []) [] rfl rfl).more hb_195)
                    clear hh_16 ht_19 hvm_19 hz_19 hk_19 hS_19 hb_191 hb_192 hb_193 hb_194 hb_195
                    obtain ⟨hr_20b, hr_20p⟩ := hr_20
                    obtain ⟨hr_20p_0, hr_20p_1⟩ := hr_20p
                    have ho109 : jOpI ft (v2_1.toInt + 1) pl.toInt = r_20.toInt := by rw [hr_20p_0]; congr 1; omega
                    have hr_20' := jb_01 hr_20b
                    refine lv_if_eq (tgt := 117) hx hb dX1_sentenceEnd_112 (by decide) (fun c_21 => ?_) (fun c_21 => ?_)
                    · skip
                      have c_21' : r_20.toInt = 0 := jb_eq (rfl) ((by decide)) c_21
                      first | (have hr_20p_1q := hr_20p_1.resolve_left (by omega); clear hr_20p_1) | (have hr_20p_1q := hr_20p_1.resolve_right (by omega); clear hr_20p_1) | try clear hr_20p_1
                      obtain ⟨z_22, ez_22⟩ : ∃ y : Int32, y = v3_1 + 1 := ⟨_, rfl⟩
                      refine lv_iinc (v := z_22) (lv' := [(3, .int z_22), (2, .int z_12), (4, .int 1), (0, .ref r0), (1, .int a1)]) hx hb dX1_sentenceEnd_117 hl (k := 4) rfl (by rw [ez_22]; rfl) (by decide) rfl (fun ls hl => ?_)
                      have hz_22 : z_22.toInt = v3_1.toInt + 1 := by rw [ez_22]; exact jb_iadd2 (rfl) (by decide) (by omega)
                      refine lv_goto (tgt := 4) hx hb dX1_sentenceEnd_120 (by decide) ?_
                      exact L4 z_12 z_22 (kf - 1) _ _ hh_19 (by refine ⟨by omega, by omega, by omega, by omega, by omega, ?_⟩; first | exact (jSx_c (by omega) (by omega) (by omega) (by omega) (jCe.op (zz_none) (by omega))).trans hi_1_5 | exact (jSx_n (by omega) (by omega) (by omega) (jDt_0 (by first | exact Or.inl (by rw [← hqz_7]; omega) | exact Or.inr ⟨by omega, (by rw [← hqz_15, ← hr_17p]; omega), by omega⟩)) (by omega)).trans hi_1_5) (by omega) _ (lv_sub hl [3, 4, 1, 0] rfl)
                    · skip
                      have c_21' : r_20.toInt ≠ 0 := jb_eq_n (rfl) ((by decide)) c_21
                      first | (have hr_20p_1q := hr_20p_1.resolve_left (by omega); clear hr_20p_1) | (have hr_20p_1q := hr_20p_1.resolve_right (by omega); clear hr_20p_1) | try clear hr_20p_1
                      refine lv_iload_n hx hb dX1_sentenceEnd_115 rfl (lv_at hl 0 rfl) ?_
                      rw [hQ]
                      exact W.iret (v := z_12) hx hb hr (fun t ht hW => ⟨⟨z_12, (), rfl, by refine ⟨?_, by omega⟩; exact (jSx_d (by omega) (by omega) (by omega) (jDt_1 (by rw [← hqz_7]; omega) (by first | exact Or.inl (by omega) | exact Or.inr (Or.inl (by rw [← hqz_15, ← hr_17p]; omega)) | exact Or.inr (Or.inr (by rw [ho109]; omega)))) (by omega)).trans hi_1_5, hh_19.rt (M1 := []) [] rfl ht⟩, by rw [ht]; try exact hh_19.1.1, fun q h9 hq => by rw [ht]; try exact hh_19.1.2.1 q h9 hq⟩) hh_19.1.2.2 dX1_sentenceEnd_116
          · skip
            have c_6' : r_5.toInt ≠ 0 := jb_eq_n (rfl) ((by decide)) c_6
            first | (have hr_5p_1q := hr_5p_1.resolve_left (by omega); clear hr_5p_1) | (have hr_5p_1q := hr_5p_1.resolve_right (by omega); clear hr_5p_1) | try clear hr_5p_1
            refine lv_aload_n hx hb dX1_sentenceEnd_35 rfl (lv_at hl 0 rfl) ?_
            refine j7_read hx hb hown hK (C := RX1) (T := TX1) (N := 17) rfl hly_3_2 hlk_15 (hh_4.at 1 rfl) dX1_sentenceEnd_36 ?_
            refine lv_iload_n hx hb dX1_sentenceEnd_39 rfl (lv_at hl 2 rfl) ?_
            refine lv_aload_n hx hb dX1_sentenceEnd_40 rfl (lv_at hl 0 rfl) ?_
            refine j7_read hx hb hown hK (C := RX1) (T := TX1) (N := 17) rfl hly_3_3 hlk_42 (hh_4.at 0 rfl) dX1_sentenceEnd_41 ?_
            refine va_calli (A0 := jA base) (H0 := s.heap) (va_runSN (As := [.ref tx_, .int v2_1, .int pl]) (rest := []) ⟨hx, hb, hml, hown, hts⟩ (uX11_commentEndPt9 l dC dI ca base B hB hAp hB101 hB173 G0 H_4 tx_ v2_1 pl 1500 ft) ⟨va_cnB 3 hts (jgW (jWr_36 _ (List.mem_of_getElem? (i := 11) rfl))) rfl rfl rfl (hG.2.2.1 RX1 91 yX11_commentEnd "ProofServer" (List.mem_of_getElem? (i := 1120) (by decide +kernel))) (htw (.initialized RX11) (jWr_1 _ (List.mem_of_getElem? (i := 2) rfl))) (by decide +kernel) ⟨by rw [← hR]; exact Nat.le_of_ble_eq_true rfl, by rw [← hR]; exact Nat.le_of_ble_eq_true rfl⟩, htw (.static yX11_commentEnd) (jWr_36 _ (List.mem_of_getElem? (i := 10) rfl)), trivial⟩ ⟨fun a U g mk q => by obtain ⟨q0, q1, q2, qK, q10, q11, q12, q13⟩ := q; exact ⟨q0, q1, q2, jG.calling g mk a qK, q10, q11, q12, q13⟩, fun U hU hW => ⟨rfl, hU, hh_4.2.1, hG.step hW hU hh_4.1, hg_tx_, jP.nil, (hh_4.2.2.2.2.2.2.2.1.sub (L1 := [(tx_, 173, 1500, ca 1, ft)]) [0] rfl), by first | omega | (refine ⟨?_, ?_, ?_, ?_⟩ <;> (first | omega | rfl | assumption | decide | exact Or.inl rfl | exact Or.inr rfl | (simp only; omega)))⟩⟩ rfl rfl hl.1 rfl (lv_room (Nat.le_of_ble_eq_true rfl)) dX1_sentenceEnd_44 ⟨Nat.zero_le _, Nat.zero_le _⟩) hh_4.1 (fun q _ h => h) (fun q h => h) (fun r_24 u_23 t_23 H_23 locs_23 ht_23 hvm_23 hr_24 hb_23 hz_23 hk_23 hS_23 => ?_)
            rw [ht_23] at hb_23
            obtain ⟨hb_231, hb_232, hb_233, hb_234, hb_235⟩ := hb_23
            have hh_23 : jSt (dC, dI) B base G0 G0 EX1_sentenceEndP s.heap 0 0 [(r0, 3, 3, .int pl), (r0, 3, 2, .ref tx_)] [(tx_, 173, 1500, ca 1, ft)] [] H_23 locs_23 := ((hh_4.call hb_231 hb_232 hb_233 hb_234 hS_23 rfl (L1 := [(r0, 3, 3, .int pl), (r0, 3, 2, .ref tx_)]) [0, 1] rfl rfl (M1 := [(tx_, 173, 1500, ca 1, ft)]) [0] rfl rfl (I1 := []) [] rfl rfl).more hb_235)
            clear hh_4 ht_23 hvm_23 hz_23 hk_23 hS_23 hb_231 hb_232 hb_233 hb_234 hb_235
            obtain ⟨hr_24_0, hr_24_1⟩ := hr_24
            refine lv_istore_n (lv' := [(2, .int r_24), (0, .ref r0), (1, .int a1), (3, .int v3_1)]) hx hb dX1_sentenceEnd_47 rfl hl (by decide) rfl (fun ls hl => ?_)
            refine lv_iload_n hx hb dX1_sentenceEnd_48 rfl (lv_at hl 0 rfl) ?_
            refine lv_if_ge (tgt := 117) hx hb dX1_sentenceEnd_49 (by decide) (fun c_25 => ?_) (fun c_25 => ?_)
            · skip
              have c_25' : r_24.toInt ≥ 0 := jb_ge (rfl) ((by decide)) c_25
              first | (have hr_24_1q := hr_24_1.resolve_left (by omega); clear hr_24_1) | (have hr_24_1q := hr_24_1.resolve_right (by omega); clear hr_24_1) | skip
              obtain ⟨z_26, ez_26⟩ : ∃ y : Int32, y = v3_1 + 1 := ⟨_, rfl⟩
              refine lv_iinc (v := z_26) (lv' := [(3, .int z_26), (2, .int r_24), (0, .ref r0), (1, .int a1)]) hx hb dX1_sentenceEnd_117 hl (k := 3) rfl (by rw [ez_26]; rfl) (by decide) rfl (fun ls hl => ?_)
              have hz_26 : z_26.toInt = v3_1.toInt + 1 := by rw [ez_26]; exact jb_iadd2 (rfl) (by decide) (by omega)
              refine lv_goto (tgt := 4) hx hb dX1_sentenceEnd_120 (by decide) ?_
              exact L4 r_24 z_26 (kf - 1) _ _ hh_23 (by refine ⟨by omega, by omega, by omega, by omega, by omega, ?_⟩; first | exact (jSx_c (by omega) (by omega) (by omega) (by omega) (jCe.op hr_24_0 (by omega))).trans hi_1_5 | exact (jSx_n (by omega) (by omega) (by omega) (jDt_0 (by first | exact Or.inl (by rw [← (zz_none)]; omega) | exact Or.inr ⟨by omega, (by rw [← (zz_none), ← (zz_none)]; omega), by omega⟩)) (by omega)).trans hi_1_5) (by omega) _ (lv_sub hl [2, 3, 1, 0] rfl)
            · skip
              have c_25' : r_24.toInt < 0 := jb_ge_n (rfl) ((by decide)) c_25
              first | (have hr_24_1q := hr_24_1.resolve_left (by omega); clear hr_24_1) | (have hr_24_1q := hr_24_1.resolve_right (by omega); clear hr_24_1) | skip
              refine lv_iconst (v := (-1)) hx hb dX1_sentenceEnd_52 (by decide) ?_
              rw [hQ]
              exact W.iret (v := (-1)) hx hb hr (fun t ht hW => ⟨⟨(-1), (), rfl, by refine ⟨?_, by omega⟩; exact (jSx_u (b := r_24.toInt) (by omega) (by omega) (by omega) (by omega) (jCe.op hr_24_0 (by omega)) hkm1).trans hi_1_5, hh_23.rt (M1 := []) [] rfl ht⟩, by rw [ht]; try exact hh_23.1.1, fun q h9 hq => by rw [ht]; try exact hh_23.1.2.1 q h9 hq⟩) hh_23.1.2.2 dX1_sentenceEnd_53
  exact L4 (pl.toInt - (a1 : Int32).toInt : Int).toNat.succ a1 0 ((pl.toInt - a1.toInt).toNat + 1) _ _ hh (by refine ⟨by omega, by omega, by omega, by omega, by omega, rfl⟩) (by omega) _ (lv_sub hl [2, 3, 1, 0] rfl)
set_option maxHeartbeats 4000000 in
set_option maxRecDepth 20000 in
theorem uX1_partP (l : Launch) (dC : Nat → ClassId) (dI : Nat → Nat → Nat) (ca : Nat → ClassId) (base : Nat) (B : jF) (hB : jBok B) (hAp : jAp (dC, dI)) (hB3 : ∀ n G a H, B 3 n G a H ↔ jOb (dC, dI) 3 17 (F3 n G) a H) (hB8 : ∀ n G a H, B 8 n G a H ↔ jOb (dC, dI) 8 4 (F8 n G) a H) (hB12 : ∀ n G a H, B 12 n G a H ↔ jOb (dC, dI) 12 11 (F12b n G) a H) (hB101 : ∀ n G a H, B 101 n G a H ↔ jAr (dC, dI) (ca 1) (fun j z => True) n a H) (hB102 : ∀ n G a H, B 102 n G a H ↔ jAl (dC, dI) (ca 2) n a H) (hB132 : ∀ n G a H, B 132 n G a H ↔ jAr (dC, dI) (ca 1) (fun j z => 0 ≤ z.toInt ∧ z.toInt ≤ 10) n a H) (hB133 : ∀ n G a H, B 133 n G a H ↔ jAr (dC, dI) (ca 1) (fun j z => 0 ≤ z.toInt ∧ z.toInt ≤ 8192) n a H) (hB171 : ∀ n G a H, B 171 n G a H ↔ jAr (dC, dI) (ca 1) (fun j z => 0 ≤ z.toInt ∧ z.toInt ≤ 1500) n a H) (hB172 : ∀ n G a H, B 172 n G a H ↔ jAr (dC, dI) (ca 1) (fun j z => 0 ≤ z.toInt ∧ z.toInt ≤ 1500) n a H) (hB173 : ∀ n G a H, B 173 n G a H ↔ jAr (dC, dI) (ca 1) (fun j z => True) n a H) (hB293 : ∀ n G a H, B 293 n G a H ↔ jAr (dC, dI) (ca 1) (fun j z => -1 ≤ z.toInt ∧ z.toInt ≤ 8191) n a H) (G0 : jT) (H0 : Heap) (r0 : Nat) (r1 : Nat) (n0 : Nat) (pl : Int32) (sa_ : Nat) (ea_ : Nat) (tx_ : Nat) (ph : Nat) (fb : Nat → Int32) (fe : Nat → Int32) (ft : Nat → Int32) : Met l yX1_part (jw yX1_part cX1_part 5 none) ({ frames := 6, cells := 0, slots := 0, locals := 208 }) (va_Pc [.ref r0, .ref r1] (fun U => U.heap = H0 ∧ jX B base G0 [] H0 ∧ jG dC dI ca base U ∧ G0 r0 = some (3, n0) ∧ G0 r1 = some (12, 0) ∧ G0 sa_ = some (171, 40) ∧ G0 ea_ = some (172, 40) ∧ G0 tx_ = some (173, 1500) ∧ jP (dC, dI) G0 H0 [(r0, 3, 3, .int pl), (r0, 3, 5, .ref sa_), (r0, 3, 6, .ref ea_), (r0, 3, 2, .ref tx_)] ∧ jMc (dC, dI) G0 H0 [(sa_, 171, 40, ca 1, fb), (ea_, 172, 40, ca 1, fe), (tx_, 173, 1500, ca 1, ft)] ∧ jIs (dC, dI) G0 H0 [(jFdo, jDcc dC dI ca G0 (some r0) ph)] ∧ 0 ≤ pl.toInt ∧ pl.toInt ≤ 1500)) (va_Qv (S := Int32 × (Nat → Int32) × (Nat → Int32)) (fun u => 0 ≤ u.1.toInt ∧ u.1.toInt ≤ 40 ∧ jSn u.2.1 u.2.2 u.1.toInt pl.toInt ∧ u.1.toInt = jPar ft pl.toInt) (fun u t => ((jRt (dC, dI) B base G0 EX1_partP H0 [(r0, 3, 4, .int u.1)] t.heap ∧ jMc (dC, dI) G0 t.heap [(sa_, 171, 40, ca 1, u.2.1), (ea_, 172, 40, ca 1, u.2.2)]) ∧ jOw (dC, dI) G0 3 r0 H0 t.heap) ∧ jIs (dC, dI) G0 t.heap [(jFdo, jDcc dC dI ca G0 (some r0) ph)]) (jA base)) 0 0 (jA base) := by
  refine Met.ofW (cc := cX1_part) (maxL := 5) (ret := none) (by decide) rfl ?_
  intro p e s m args below meth c s₁ Bd hml hv
  obtain ⟨rfl, hH0, hX, hG, hg_r0, hg_r1, hg_sa_, hg_ea_, hg_tx_, hP0, hM0, hI0, hp0, hp1⟩ := hv
  have hK := hG.1
  have hx := Bd.exec
  have hb := Bd.bytes
  have hr := Bd.returns
  have hts := atoms_spec (ws := (jw yX1_part cX1_part 5 none)) Bd.pre
  have htw : ∀ w ∈ jWl, w.before _ s = true := fun w h => hts w (List.mem_cons_of_mem _ h)
  have hown : s.vm.findClass RX1 = some m.cls := findClass_of_methodNamed Bd.named
  have hlocks := Bd.notSynchronized
  obtain ⟨Q, hQ⟩ : ∃ Q, Q = MQ below (va_Qv (S := Int32 × (Nat → Int32) × (Nat → Int32)) (fun u => 0 ≤ u.1.toInt ∧ u.1.toInt ≤ 40 ∧ jSn u.2.1 u.2.2 u.1.toInt pl.toInt ∧ u.1.toInt = jPar ft pl.toInt) (fun u t => ((jRt (dC, dI) B base G0 EX1_partP H0 [(r0, 3, 4, .int u.1)] t.heap ∧ jMc (dC, dI) G0 t.heap [(sa_, 171, 40, ca 1, u.2.1), (ea_, 172, 40, ca 1, u.2.2)]) ∧ jOw (dC, dI) G0 3 r0 H0 t.heap) ∧ jIs (dC, dI) G0 t.heap [(jFdo, jDcc dC dI ca G0 (some r0) ph)]) (jA base)) ([.ref r0, .ref r1] : List Value).toArray s 0 0 (jA base) := ⟨_, rfl⟩
  rw [← hQ]
  have hl := lv_entry ([.ref r0, .ref r1]) (n := 5) (Nat.le_of_ble_eq_true rfl)
  rw [lg_entry_eq]
  generalize (lg_sl ([.ref r0, .ref r1]) ++ List.replicate (5 - (lg_sl ([.ref r0, .ref r1])).length) Slot.unset).toArray = ls at hl ⊢
  have hl : lv_has ls 5 [(0, .ref r0), (1, .ref r1)] := hl
  generalize hR : (headSpec (jw yX1_part cX1_part 5 none) ({ frames := 6, cells := 0, slots := 0, locals := 208 })).room = R
  subst hH0
  have hh : jSt (dC, dI) B base G0 G0 EX1_partP s.heap 0 0 [(r0, 3, 3, .int pl), (r0, 3, 5, .ref sa_), (r0, 3, 6, .ref ea_), (r0, 3, 2, .ref tx_)] [(sa_, 171, 40, ca 1, fb), (ea_, 172, 40, ca 1, fe), (tx_, 173, 1500, ca 1, ft)] [(jFdo, jDcc dC dI ca G0 (some r0) ph)] s.heap [] := jSt.start hX hP0 hM0 hI0
  clear hX hP0
  have hk0 : (0 : Int32).toInt = 0 := by decide
  have hk1 : (1 : Int32).toInt = 1 := by decide
  have hk2 : (2 : Int32).toInt = 2 := by decide
  have hk3 : (3 : Int32).toInt = 3 := by decide
  have hk39 : (39 : Int32).toInt = 39 := by decide
  have hk40 : (40 : Int32).toInt = 40 := by decide
  have hly_3_2 := htw (u_lay RX1 TX1 2) (jWc_wsX10 _ (u_in_lay (by decide)))
  have hly_3_3 := htw (u_lay RX1 TX1 3) (jWc_wsX10 _ (u_in_lay (by decide)))
  have hly_3_4 := htw (u_lay RX1 TX1 4) (jWc_wsX10 _ (u_in_lay (by decide)))
  have hly_3_5 := htw (u_lay RX1 TX1 5) (jWc_wsX10 _ (u_in_lay (by decide)))
  have hly_3_6 := htw (u_lay RX1 TX1 6) (jWc_wsX10 _ (u_in_lay (by decide)))
  have hly_3_7 := htw (u_lay RX1 TX1 7) (jWc_wsX10 _ (u_in_lay (by decide)))
  have hly_3_8 := htw (u_lay RX1 TX1 8) (jWc_wsX10 _ (u_in_lay (by decide)))
  have hlk_69 := (htw (.fieldLink RX1 69 "ProofServer$Document" "sentences" "I") (jWr_29 _ (List.mem_of_getElem? (i := 14) rfl)))
  have hlk_42 := (htw (.fieldLink RX1 42 "ProofServer$Document" "length" "I") (jWr_29 _ (List.mem_of_getElem? (i := 5) rfl)))
  have hlk_18 := (htw (.fieldLink RX1 18 "ProofServer$Document" "starts" "[I") (jWr_10 _ (List.mem_of_getElem? (i := 7) rfl)))
  have hlk_21 := (htw (.fieldLink RX1 21 "ProofServer$Document" "ends" "[I") (jWr_10 _ (List.mem_of_getElem? (i := 8) rfl)))
  have hlk_27 := (htw (.fieldLink RX1 27 "ProofServer$Document" "early" "[I") (jWr_10 _ (List.mem_of_getElem? (i := 10) rfl)))
  have hlk_24 := (htw (.fieldLink RX1 24 "ProofServer$Document" "costs" "[I") (jWr_10 _ (List.mem_of_getElem? (i := 9) rfl)))
  have hlk_15 := (htw (.fieldLink RX1 15 "ProofServer$Document" "text" "[I") (jWr_10 _ (List.mem_of_getElem? (i := 6) rfl)))
  have hh_1 := hh.addI (jOw.ie (dC := dC) (dI := dI) (G0 := G0) (k := 3) (r := r0) (H0 := s.heap) (F := [(3, 0), (3, 1), (3, 2), (3, 3), (3, 4), (3, 5), (3, 6), (3, 7), (3, 8), (3, 9), (3, 10), (3, 11), (3, 12), (3, 13), (3, 14), (3, 15), (3, 16)]) (C := RX1) (T := TX1) (N := 17) rfl (by decide) hh.2.2.2.2.1 (jOw.rf))
  clear hh
  refine lv_aload_n hx hb dX1_part_0 rfl (lv_at hl 0 rfl) ?_
  refine lv_iconst (v := 0) hx hb dX1_part_1 (by decide) ?_
  have hd_3 := hh_1.iv 1 rfl
  have hd_35 := hh_1.at 1 rfl
  have hd_36 := hh_1.at 2 rfl
  have hd_3o := hh_1.iv 0 rfl
  have hh_4 := hh_1.sub (L1 := [(r0, 3, 3, .int pl), (r0, 3, 5, .ref sa_), (r0, 3, 6, .ref ea_), (r0, 3, 2, .ref tx_)]) [0, 1, 2, 3] rfl (M1 := [(sa_, 171, 40, ca 1, fb), (ea_, 172, 40, ca 1, fe), (tx_, 173, 1500, ca 1, ft)]) [0, 1, 2] rfl (I1 := []) [] rfl
  clear hh_1
  refine j7_putX hx hb hown hK hh_4 hB hAp hB3 (C := RX1) (T := TX1) (N := 17) rfl (by decide) hg_r0 (i := 4) (by decide) hly_3_4 rfl hlk_69 rfl (ty := .int) (v := .int 0) (by decide +kernel) rfl rfl (⟨_, rfl, by omega, by omega⟩) rfl (L1 := [(r0, 3, 3, .int pl), (r0, 3, 5, .ref sa_), (r0, 3, 6, .ref ea_), (r0, 3, 2, .ref tx_)]) [0, 1, 2, 3] rfl rfl rfl dX1_part_2 (fun H_2 locs_2 hr_2 hh_2 => ?_)
  clear hh_4
  have hd_3n := jDcc.fld hd_3 hg_r0 hr_2 hd_35 hd_36 (hh_2.at 2 rfl) (hh_2.at 3 rfl)
  have hd_3on := jOw.put hd_3o hr_2
  have hh_5 := hh_2.addI (jDcc.ie hd_3n)
  clear hh_2
  have hh_6 := hh_5.addI (jOw.ie (dC := dC) (dI := dI) (G0 := G0) (k := 3) (r := r0) (H0 := s.heap) (F := [(3, 0), (3, 1), (3, 2), (3, 3), (3, 4), (3, 5), (3, 6), (3, 7), (3, 8), (3, 9), (3, 10), (3, 11), (3, 12), (3, 13), (3, 14), (3, 15), (3, 16)]) (C := RX1) (T := TX1) (N := 17) rfl (by decide) hh_5.2.2.2.2.1 (hd_3on))
  clear hh_5
  clear hd_3 hd_3n hd_35 hd_36 hr_2 hd_3o hd_3on
  refine lv_aload_n hx hb dX1_part_5 rfl (lv_at hl 0 rfl) ?_
  refine lv_iconst (v := 0) hx hb dX1_part_6 (by decide) ?_
  refine va_calli (A0 := jA base) (H0 := s.heap) (va_runV (As := [.int 0]) (rest := []) ⟨hx, hb, hml, hown, hts⟩ (uX1_sentenceBeginP l dC dI ca base B hB hAp hB3 hB101 hB173 G0 H_2 r0 0 n0 pl tx_ ft) (cwV 1 hts (jgV (jWr_36 _ (List.mem_of_getElem? (i := 6) rfl)) (jWr_36 _ (List.mem_of_getElem? (i := 7) rfl)) (jWr_36 _ (List.mem_of_getElem? (i := 8) rfl)) (jWr_2 _ (List.mem_of_getElem? (i := 21) rfl)) (jWr_36 _ (List.mem_of_getElem? (i := 9) rfl))) rfl rfl rfl (by decide +kernel) ⟨by rw [← hR]; exact Nat.le_of_ble_eq_true rfl, by rw [← hR]; exact Nat.le_of_ble_eq_true rfl⟩) ⟨fun a U g mk q => by obtain ⟨q0, q1, q2, qK, q10, q11, q12, q13, q14⟩ := q; exact ⟨q0, q1, q2, jG.calling g mk a qK, q10, q11, q12, q13, q14⟩, hh_6.recv (C := RX1) (T := TX1) (N := 17) hB3 rfl (by decide) hg_r0 hK, fun U hU hW => ⟨rfl, hU, hh_6.2.1, hG.step hW hU hh_6.1, hg_r0, hg_tx_, (hh_6.2.2.1.sub (L1 := [(r0, 3, 3, .int pl), (r0, 3, 2, .ref tx_)]) [1, 4] rfl), (hh_6.2.2.2.2.2.2.2.1.sub (L1 := [(tx_, 173, 1500, ca 1, ft)]) [2] rfl), by first | omega | (refine ⟨?_, ?_, ?_⟩ <;> (first | omega | rfl | assumption | decide | exact Or.inl rfl | exact Or.inr rfl | (simp only; omega)))⟩⟩ rfl rfl hl.1 rfl (lv_room (Nat.le_of_ble_eq_true rfl)) dX1_part_7 ⟨Nat.zero_le _, Nat.zero_le _⟩) hh_6.1 (fun q _ h => h) (fun q h => h) (fun r_8 u_7 t_7 H_7 locs_7 ht_7 hvm_7 hr_8 hb_7 hz_7 hk_7 hS_7 => ?_)
  rw [ht_7] at hb_7
  obtain ⟨hb_71, hb_72, hb_73, hb_74, hb_75⟩ := hb_7
  have hh_7 : jSt (dC, dI) B base G0 G0 EX1_partP s.heap 0 0 [(r0, 3, 4, .int 0), (r0, 3, 3, .int pl), (r0, 3, 5, .ref sa_), (r0, 3, 6, .ref ea_), (r0, 3, 2, .ref tx_)] [(sa_, 171, 40, ca 1, fb), (ea_, 172, 40, ca 1, fe), (tx_, 173, 1500, ca 1, ft)] [([(3, 0), (3, 1), (3, 2), (3, 3), (3, 4), (3, 5), (3, 6), (3, 7), (3, 8), (3, 9), (3, 10), (3, 11), (3, 12), (3, 13), (3, 14), (3, 15), (3, 16)], jOw (dC, dI) G0 3 r0 s.heap), (jFdo, jDcc dC dI ca G0 (some r0) ph)] H_7 locs_7 := ((hh_6.call hb_71 hb_72 hb_73 hb_74 hS_7 rfl (L1 := [(r0, 3, 4, .int 0), (r0, 3, 3, .int pl), (r0, 3, 5, .ref sa_), (r0, 3, 6, .ref ea_), (r0, 3, 2, .ref tx_)]) [0, 1, 2, 3, 4] rfl rfl (M1 := [(sa_, 171, 40, ca 1, fb), (ea_, 172, 40, ca 1, fe), (tx_, 173, 1500, ca 1, ft)]) [0, 1, 2] rfl rfl (I1 := [([(3, 0), (3, 1), (3, 2), (3, 3), (3, 4), (3, 5), (3, 6), (3, 7), (3, 8), (3, 9), (3, 10), (3, 11), (3, 12), (3, 13), (3, 14), (3, 15), (3, 16)], jOw (dC, dI) G0 3 r0 s.heap), (jFdo, jDcc dC dI ca G0 (some r0) ph)]) [0, 1] rfl rfl).more hb_75)
  clear hh_6 ht_7 hvm_7 hz_7 hk_7 hS_7 hb_71 hb_72 hb_73 hb_74 hb_75
  obtain ⟨hr_8_0, hr_8_1, hr_8_2⟩ := hr_8
  rw [hk0] at hr_8_0
  refine lv_istore_n (lv' := [(2, .int r_8), (0, .ref r0), (1, .ref r1)]) hx hb dX1_part_10 rfl hl (by decide) rfl (fun ls hl => ?_)
  refine lv_iconst (v := 0) hx hb dX1_part_11 (by decide) ?_
  refine lv_istore_n (lv' := [(3, .int 0), (2, .int r_8), (0, .ref r0), (1, .ref r1)]) hx hb dX1_part_12 rfl hl (by decide) rfl (fun ls hl => ?_)
  have L13 : ∀ (N : Nat) (v2_9 : Int32) (v3_9 : Int32) (ws_9 : Int32) (fb_9 : Nat → Int32) (fe_9 : Nat → Int32) (kf : Nat) (H_9 : Heap) (locs_9 : List Loc), jSt (dC, dI) B base G0 G0 EX1_partP s.heap 0 0 [(r0, 3, 4, .int ws_9), (r0, 3, 3, .int pl), (r0, 3, 5, .ref sa_), (r0, 3, 6, .ref ea_), (r0, 3, 2, .ref tx_)] [(ea_, 172, 40, ca 1, fe_9), (sa_, 171, 40, ca 1, fb_9), (tx_, 173, 1500, ca 1, ft)] [([(3, 0), (3, 1), (3, 2), (3, 3), (3, 4), (3, 5), (3, 6), (3, 7), (3, 8), (3, 9), (3, 10), (3, 11), (3, 12), (3, 13), (3, 14), (3, 15), (3, 16)], jOw (dC, dI) G0 3 r0 s.heap), (jFdo, jDcc dC dI ca G0 (some r0) ph)] H_9 locs_9 → (0 ≤ v3_9.toInt ∧ v3_9.toInt ≤ 40 ∧ 0 ≤ v2_9.toInt ∧ v2_9.toInt ≤ pl.toInt ∧ ws_9.toInt = v3_9.toInt ∧ jSn fb_9 fe_9 v3_9.toInt pl.toInt ∧ (v3_9.toInt = 0 ∨ jSo fe_9 (v3_9.toInt - 1) ≤ v2_9.toInt) ∧ jPz ft pl.toInt kf v2_9.toInt v3_9.toInt ∧ pl.toInt - v2_9.toInt + 1 < kf) → (40 - v3_9.toInt : Int) < N → ∀ ls : Array Slot, lv_has ls 5 [(0, .ref r0), (1, .ref r1), (2, .int v2_9), (3, .int v3_9)] → W p l e R s m ([.ref r0, .ref r1] : List Value).toArray below meth c H_9 locs_9 0 0 Q (F0 m 13 ls []) := by
    intro N
    induction N with
    | zero => intro v2_9 v3_9 ws_9 fb_9 fe_9 kf H_9 locs_9 hh_9  hi_9 hm; exact absurd hm (by omega)
    | succ N L13 =>
      intro v2_9 v3_9 ws_9 fb_9 fe_9 kf H_9 locs_9 hh_9  hi_9 hm_9 ls hl
      obtain ⟨hi_9_0, hi_9_1, hi_9_2, hi_9_3, hi_9_4, hi_9_5, hi_9_6, hi_9_7, hi_9_8⟩ := hi_9
      refine lv_iload_n hx hb dX1_part_13 rfl (lv_at hl 3 rfl) ?_
      refine lv_bipush (v := 40) hx hb dX1_part_14 (by decide) ?_
      refine lv_icmp_ge (tgt := 101) hx hb dX1_part_16 (by decide) (fun c_10 => ?_) (fun c_10 => ?_)
      · skip
        have c_10' : v3_9.toInt ≥ 40 := jb_ge (rfl) ((by decide)) c_10
        refine lv_iload_n hx hb dX1_part_101 rfl (lv_at hl 2 rfl) ?_
        refine lv_aload_n hx hb dX1_part_102 rfl (lv_at hl 0 rfl) ?_
        refine j7_read hx hb hown hK (C := RX1) (T := TX1) (N := 17) rfl hly_3_3 hlk_42 (hh_9.at 1 rfl) dX1_part_103 ?_
        refine lv_icmp_ge (tgt := 137) hx hb dX1_part_106 (by decide) (fun c_11 => ?_) (fun c_11 => ?_)
        · skip
          have c_11' : v2_9.toInt ≥ pl.toInt := jb_ge (rfl) (rfl) c_11
          refine lv_iconst (v := 0) hx hb dX1_part_137 (by decide) ?_
          refine lv_istore_n (lv' := [(3, .int 0), (0, .ref r0), (1, .ref r1), (2, .int v2_9)]) hx hb dX1_part_138 rfl hl (by decide) rfl (fun ls hl => ?_)
          have L139 : ∀ (N : Nat) (v3_12 : Int32) (H_12 : Heap) (locs_12 : List Loc), jSt (dC, dI) B base G0 G0 EX1_partP s.heap 0 0 [(r0, 3, 4, .int ws_9), (r0, 3, 3, .int pl), (r0, 3, 5, .ref sa_), (r0, 3, 6, .ref ea_), (r0, 3, 2, .ref tx_)] [(ea_, 172, 40, ca 1, fe_9), (sa_, 171, 40, ca 1, fb_9), (tx_, 173, 1500, ca 1, ft)] [([(3, 0), (3, 1), (3, 2), (3, 3), (3, 4), (3, 5), (3, 6), (3, 7), (3, 8), (3, 9), (3, 10), (3, 11), (3, 12), (3, 13), (3, 14), (3, 15), (3, 16)], jOw (dC, dI) G0 3 r0 s.heap), (jFdo, jDcc dC dI ca G0 (some r0) ph)] H_12 locs_12 → (0 ≤ v3_12.toInt ∧ v3_12.toInt ≤ ws_9.toInt) → (ws_9.toInt - v3_12.toInt : Int) < N → ∀ ls : Array Slot, lv_has ls 5 [(0, .ref r0), (1, .ref r1), (2, .int v2_9), (3, .int v3_12)] → W p l e R s m ([.ref r0, .ref r1] : List Value).toArray below meth c H_12 locs_12 0 0 Q (F0 m 139 ls []) := by
            intro N
            induction N with
            | zero => intro v3_12 H_12 locs_12 hh_12  hi_12 hm; exact absurd hm (by omega)
            | succ N L139 =>
              intro v3_12 H_12 locs_12 hh_12  hi_12 hm_12 ls hl
              obtain ⟨hi_12_0, hi_12_1⟩ := hi_12
              refine lv_iload_n hx hb dX1_part_139 rfl (lv_at hl 3 rfl) ?_
              refine lv_aload_n hx hb dX1_part_140 rfl (lv_at hl 0 rfl) ?_
              refine j7_read hx hb hown hK (C := RX1) (T := TX1) (N := 17) rfl hly_3_4 hlk_69 (hh_12.at 0 rfl) dX1_part_141 ?_
              refine lv_icmp_ge (tgt := 194) hx hb dX1_part_144 (by decide) (fun c_13 => ?_) (fun c_13 => ?_)
              · skip
                have c_13' : v3_12.toInt ≥ ws_9.toInt := jb_ge (rfl) (rfl) c_13
                rw [hQ]
                exact W.vret hx hb hr (fun t ht hW => ⟨⟨(ws_9, fb_9, fe_9), rfl, by (try dsimp only); refine ⟨by omega, by omega, ?_, ?_⟩; exact jSn.ce hi_9_5 (by omega); (have h9 := hi_9_7.end (by omega) (by omega); omega), ⟨⟨⟨hh_12.rt (M1 := [(r0, 3, 4, .int ws_9)]) [0] rfl ht, by rw [ht]; exact hh_12.2.2.2.2.2.2.2.1.sub [1, 0] rfl⟩, by rw [ht]; exact hh_12.iv 0 rfl⟩, by rw [ht]; exact hh_12.2.2.2.2.2.2.2.2.sub (L1 := [(jFdo, jDcc dC dI ca G0 (some r0) ph)]) [1] rfl⟩⟩, by rw [ht]; try exact hh_12.1.1, fun q h9 hq => by rw [ht]; try exact hh_12.1.2.1 q h9 hq⟩) hh_12.1.2.2 dX1_part_194
              · skip
                have c_13' : v3_12.toInt < ws_9.toInt := jb_ge_n (rfl) (rfl) c_13
                refine lv_aload_n hx hb dX1_part_147 rfl (lv_at hl 0 rfl) ?_
                obtain ⟨v_14, hv_14, hh_15⟩ := hh_12.pin (C := RX1) (T := TX1) (N := 17) hB3 rfl (by decide) hg_r0 (i := 7) (by decide) rfl
                clear hh_12
                obtain ⟨costs_16, rfl, hg_costs_16⟩ := hv_14
                refine j7_read hx hb hown hK (C := RX1) (T := TX1) (N := 17) rfl hly_3_7 hlk_24 (hh_15.at 0 rfl) dX1_part_148 ?_
                refine lv_iload_n hx hb dX1_part_151 rfl (lv_at hl 3 rfl) ?_
                refine lv_iconst (v := 3) hx hb dX1_part_152 (by decide) ?_
                refine lv_aload_n hx hb dX1_part_153 rfl (lv_at hl 0 rfl) ?_
                obtain ⟨v_17, hv_17, hh_18⟩ := hh_15.pin (C := RX1) (T := TX1) (N := 17) hB3 rfl (by decide) hg_r0 (i := 8) (by decide) rfl
                clear hh_15
                obtain ⟨early_19, rfl, hg_early_19⟩ := hv_17
                refine j7_read hx hb hown hK (C := RX1) (T := TX1) (N := 17) rfl hly_3_8 hlk_27 (hh_18.at 0 rfl) dX1_part_154 ?_
                refine lv_iload_n hx hb dX1_part_157 rfl (lv_at hl 3 rfl) ?_
                refine j7_iald hx hb hK hh_18 hB101 1 rfl (by decide) hg_early_19 (x := v3_12.toInt) (rfl) (by omega) dX1_part_158 (fun z_20 (hz_20 : True) => ?_)
                refine lv_if_le (tgt := 166) hx hb dX1_part_159 (by decide) (fun c_21 => ?_) (fun c_21 => ?_)
                · skip
                  have c_21' : z_20.toInt ≤ 0 := jb_le (rfl) ((by decide)) c_21
                  refine lv_aload_n hx hb dX1_part_166 rfl (lv_at hl 1 rfl) ?_
                  refine lv_aload_n hx hb dX1_part_167 rfl (lv_at hl 0 rfl) ?_
                  refine j7_read hx hb hown hK (C := RX1) (T := TX1) (N := 17) rfl hly_3_2 hlk_15 (hh_18.at 6 rfl) dX1_part_168 ?_
                  refine lv_aload_n hx hb dX1_part_171 rfl (lv_at hl 0 rfl) ?_
                  refine j7_read hx hb hown hK (C := RX1) (T := TX1) (N := 17) rfl hly_3_5 hlk_18 (hh_18.at 4 rfl) dX1_part_172 ?_
                  refine lv_iload_n hx hb dX1_part_175 rfl (lv_at hl 3 rfl) ?_
                  refine j7_ialdM hx hb hK hh_18 hB171 1 rfl (by decide) hg_sa_ (x := v3_12.toInt) (rfl) (by omega) (j := 1) rfl dX1_part_176 (fun z_22 ez_22 (hz_22 : 0 ≤ z_22.toInt ∧ z_22.toInt ≤ 1500) => ?_)
                  have hqz_22 : z_22.toInt = jSo fb_9 (v3_12.toInt) := by unfold jSo; rw [ez_22]
                  refine lv_aload_n hx hb dX1_part_177 rfl (lv_at hl 0 rfl) ?_
                  refine j7_read hx hb hown hK (C := RX1) (T := TX1) (N := 17) rfl hly_3_6 hlk_21 (hh_18.at 5 rfl) dX1_part_178 ?_
                  refine lv_iload_n hx hb dX1_part_181 rfl (lv_at hl 3 rfl) ?_
                  refine j7_ialdM hx hb hK hh_18 hB172 1 rfl (by decide) hg_ea_ (x := v3_12.toInt) (rfl) (by omega) (j := 0) rfl dX1_part_182 (fun z_23 ez_23 (hz_23 : 0 ≤ z_23.toInt ∧ z_23.toInt ≤ 1500) => ?_)
                  have hqz_23 : z_23.toInt = jSo fe_9 (v3_12.toInt) := by unfold jSo; rw [ez_23]
                  refine va_calli (A0 := jA base) (H0 := s.heap) (va_runV (As := [.ref tx_, .int z_22, .int z_23]) (rest := [.int 3, .int v3_12, .ref costs_16]) ⟨hx, hb, hml, hown, hts⟩ (uX10_scanBt9 l dC dI ca base B hB hAp hB8 hB12 hB101 hB102 hB132 hB133 hB173 hB293 G0 H_12 r1 tx_ z_22 z_23 1500) (cwV 3 hts (jgV (jWr_36 _ (List.mem_of_getElem? (i := 19) rfl)) (jWr_36 _ (List.mem_of_getElem? (i := 20) rfl)) (jWr_36 _ (List.mem_of_getElem? (i := 21) rfl)) (jWr_4 _ (List.mem_of_getElem? (i := 14) rfl)) (jWr_36 _ (List.mem_of_getElem? (i := 22) rfl))) rfl rfl rfl (by decide +kernel) ⟨by rw [← hR]; exact Nat.le_of_ble_eq_true rfl, by rw [← hR]; exact Nat.le_of_ble_eq_true rfl⟩) ⟨fun a U g mk q => by obtain ⟨q0, q1, q2, qK, q10, q11, q12, q13⟩ := q; exact ⟨q0, q1, q2, jG.calling g mk a qK, q10, q11, q12, q13⟩, hh_18.recv (C := RX10) (T := TX10) (N := 11) hB12 rfl (by decide) hg_r1 hK, fun U hU hW => ⟨rfl, hU, hh_18.2.1, hG.step hW hU hh_18.1, hg_r1, hg_tx_, jP.nil, by first | omega | (refine ⟨?_, ?_⟩ <;> (first | omega | rfl | assumption | decide | exact Or.inl rfl | exact Or.inr rfl | (simp only; omega)))⟩⟩ rfl rfl hl.1 rfl (lv_room (Nat.le_of_ble_eq_true rfl)) dX1_part_183 ⟨Nat.zero_le _, Nat.zero_le _⟩) hh_18.1 (fun q _ h => h) (fun q h => h) (fun r_25 u_24 t_24 H_24 locs_24 ht_24 hvm_24 hr_25 hb_24 hz_24 hk_24 hS_24 => ?_)
                  rw [ht_24] at hb_24
                  obtain ⟨hb_241, hb_242, hb_243, hb_244, hb_245⟩ := hb_24
                  have hh_24 : jSt (dC, dI) B base G0 G0 EX1_partP s.heap 0 0 [(r0, 3, 8, .ref early_19), (r0, 3, 7, .ref costs_16), (r0, 3, 4, .int ws_9), (r0, 3, 3, .int pl), (r0, 3, 5, .ref sa_), (r0, 3, 6, .ref ea_), (r0, 3, 2, .ref tx_)] [(ea_, 172, 40, ca 1, fe_9), (sa_, 171, 40, ca 1, fb_9), (tx_, 173, 1500, ca 1, ft)] [([(3, 0), (3, 1), (3, 2), (3, 3), (3, 4), (3, 5), (3, 6), (3, 7), (3, 8), (3, 9), (3, 10), (3, 11), (3, 12), (3, 13), (3, 14), (3, 15), (3, 16)], jOw (dC, dI) G0 3 r0 s.heap), (jFdo, jDcc dC dI ca G0 (some r0) ph)] H_24 locs_24 := ((hh_18.call hb_241 hb_242 hb_243 hb_244 hS_24 rfl (L1 := [(r0, 3, 8, .ref early_19), (r0, 3, 7, .ref costs_16), (r0, 3, 4, .int ws_9), (r0, 3, 3, .int pl), (r0, 3, 5, .ref sa_), (r0, 3, 6, .ref ea_), (r0, 3, 2, .ref tx_)]) [0, 1, 2, 3, 4, 5, 6] rfl rfl (M1 := [(ea_, 172, 40, ca 1, fe_9), (sa_, 171, 40, ca 1, fb_9), (tx_, 173, 1500, ca 1, ft)]) [0, 1, 2] rfl rfl (I1 := [([(3, 0), (3, 1), (3, 2), (3, 3), (3, 4), (3, 5), (3, 6), (3, 7), (3, 8), (3, 9), (3, 10), (3, 11), (3, 12), (3, 13), (3, 14), (3, 15), (3, 16)], jOw (dC, dI) G0 3 r0 s.heap), (jFdo, jDcc dC dI ca G0 (some r0) ph)]) [0, 1] rfl rfl).more hb_245)
                  clear hh_18 ht_24 hvm_24 hz_24 hk_24 hS_24 hb_241 hb_242 hb_243 hb_244 hb_245
                  obtain ⟨hr_25_0, hr_25_1⟩ := hr_25
                  refine lv_iadd hx hb dX1_part_186 ?_
                  refine lv_topi (fun z_26 ez_26 => ?_)
                  refine j7_iastL hx hb hK hh_24 hB hB101 1 rfl (by decide) (by decide) rfl rfl rfl hg_costs_16 (x := v3_12.toInt) (rfl) (by omega) (trivial) dX1_part_187 (fun H_27 locs_27 fs_28 hv_27 ho_27 hh_27 => ?_)
                  have hv_27 : jSo fs_28 (v3_12.toInt) = z_26.toInt := by unfold jSo; rw [hv_27]; try exact rfl
                  clear hh_24
                  obtain ⟨z_29, ez_29⟩ : ∃ y : Int32, y = v3_12 + 1 := ⟨_, rfl⟩
                  refine lv_iinc (v := z_29) (lv' := [(3, .int z_29), (0, .ref r0), (1, .ref r1), (2, .int v2_9)]) hx hb dX1_part_188 hl (k := 3) rfl (by rw [ez_29]; rfl) (by decide) rfl (fun ls hl => ?_)
                  have hz_29 : z_29.toInt = v3_12.toInt + 1 := by rw [ez_29]; exact jb_iadd2 (rfl) (by decide) (by omega)
                  refine lv_goto (tgt := 139) hx hb dX1_part_191 (by decide) ?_
                  exact L139 z_29 _ _ (hh_27.sub (L1 := [(r0, 3, 4, .int ws_9), (r0, 3, 3, .int pl), (r0, 3, 5, .ref sa_), (r0, 3, 6, .ref ea_), (r0, 3, 2, .ref tx_)]) [2, 3, 4, 5, 6] rfl (M1 := [(ea_, 172, 40, ca 1, fe_9), (sa_, 171, 40, ca 1, fb_9), (tx_, 173, 1500, ca 1, ft)]) [1, 2, 3] rfl (I1 := [([(3, 0), (3, 1), (3, 2), (3, 3), (3, 4), (3, 5), (3, 6), (3, 7), (3, 8), (3, 9), (3, 10), (3, 11), (3, 12), (3, 13), (3, 14), (3, 15), (3, 16)], jOw (dC, dI) G0 3 r0 s.heap), (jFdo, jDcc dC dI ca G0 (some r0) ph)]) [0, 1] rfl) (by first | omega | (refine ⟨?_, ?_⟩ <;> (first | omega | rfl | assumption | decide | exact Or.inl rfl | exact Or.inr rfl | (simp only; omega)))) (by omega) _ (lv_sub hl [1, 2, 3, 0] rfl)
                · skip
                  have c_21' : z_20.toInt > 0 := jb_le_n (rfl) ((by decide)) c_21
                  refine lv_iconst (v := 1) hx hb dX1_part_162 (by decide) ?_
                  refine lv_goto (tgt := 186) hx hb dX1_part_163 (by decide) ?_
                  refine lv_iadd hx hb dX1_part_186 ?_
                  refine lv_topi (fun z_30 ez_30 => ?_)
                  refine j7_iastL hx hb hK hh_18 hB hB101 1 rfl (by decide) (by decide) rfl rfl rfl hg_costs_16 (x := v3_12.toInt) (rfl) (by omega) (trivial) dX1_part_187 (fun H_31 locs_31 fs_32 hv_31 ho_31 hh_31 => ?_)
                  have hv_31 : jSo fs_32 (v3_12.toInt) = z_30.toInt := by unfold jSo; rw [hv_31]; try exact rfl
                  clear hh_18
                  obtain ⟨z_33, ez_33⟩ : ∃ y : Int32, y = v3_12 + 1 := ⟨_, rfl⟩
                  refine lv_iinc (v := z_33) (lv' := [(3, .int z_33), (0, .ref r0), (1, .ref r1), (2, .int v2_9)]) hx hb dX1_part_188 hl (k := 3) rfl (by rw [ez_33]; rfl) (by decide) rfl (fun ls hl => ?_)
                  have hz_33 : z_33.toInt = v3_12.toInt + 1 := by rw [ez_33]; exact jb_iadd2 (rfl) (by decide) (by omega)
                  refine lv_goto (tgt := 139) hx hb dX1_part_191 (by decide) ?_
                  exact L139 z_33 _ _ (hh_31.sub (L1 := [(r0, 3, 4, .int ws_9), (r0, 3, 3, .int pl), (r0, 3, 5, .ref sa_), (r0, 3, 6, .ref ea_), (r0, 3, 2, .ref tx_)]) [2, 3, 4, 5, 6] rfl (M1 := [(ea_, 172, 40, ca 1, fe_9), (sa_, 171, 40, ca 1, fb_9), (tx_, 173, 1500, ca 1, ft)]) [1, 2, 3] rfl (I1 := [([(3, 0), (3, 1), (3, 2), (3, 3), (3, 4), (3, 5), (3, 6), (3, 7), (3, 8), (3, 9), (3, 10), (3, 11), (3, 12), (3, 13), (3, 14), (3, 15), (3, 16)], jOw (dC, dI) G0 3 r0 s.heap), (jFdo, jDcc dC dI ca G0 (some r0) ph)]) [0, 1] rfl) (by first | omega | (refine ⟨?_, ?_⟩ <;> (first | omega | rfl | assumption | decide | exact Or.inl rfl | exact Or.inr rfl | (simp only; omega)))) (by omega) _ (lv_sub hl [1, 2, 3, 0] rfl)
          exact L139 (ws_9.toInt - (0 : Int32).toInt : Int).toNat.succ 0 _ _ hh_9 (by first | omega | (refine ⟨?_, ?_⟩ <;> (first | omega | rfl | assumption | decide | exact Or.inl rfl | exact Or.inr rfl | (simp only; omega)))) (by omega) _ (lv_sub hl [1, 2, 3, 0] rfl)
        · skip
          have c_11' : v2_9.toInt < pl.toInt := jb_ge_n (rfl) (rfl) c_11
          refine lv_aload_n hx hb dX1_part_109 rfl (lv_at hl 0 rfl) ?_
          refine j7_read hx hb hown hK (C := RX1) (T := TX1) (N := 17) rfl hly_3_4 hlk_69 (hh_9.at 0 rfl) dX1_part_110 ?_
          refine lv_bipush (v := 40) hx hb dX1_part_113 (by decide) ?_
          refine lv_icmp_ne (tgt := 137) hx hb dX1_part_115 (by decide) (fun c_34 => ?_) (fun c_34 => ?_)
          · skip
            have c_34' : ws_9.toInt ≠ 40 := jb_ne (rfl) ((by decide)) c_34
            refine lv_iconst (v := 0) hx hb dX1_part_137 (by decide) ?_
            refine lv_istore_n (lv' := [(3, .int 0), (0, .ref r0), (1, .ref r1), (2, .int v2_9)]) hx hb dX1_part_138 rfl hl (by decide) rfl (fun ls hl => ?_)
            have L139 : ∀ (N : Nat) (v3_35 : Int32) (H_35 : Heap) (locs_35 : List Loc), jSt (dC, dI) B base G0 G0 EX1_partP s.heap 0 0 [(r0, 3, 4, .int ws_9), (r0, 3, 3, .int pl), (r0, 3, 5, .ref sa_), (r0, 3, 6, .ref ea_), (r0, 3, 2, .ref tx_)] [(ea_, 172, 40, ca 1, fe_9), (sa_, 171, 40, ca 1, fb_9), (tx_, 173, 1500, ca 1, ft)] [([(3, 0), (3, 1), (3, 2), (3, 3), (3, 4), (3, 5), (3, 6), (3, 7), (3, 8), (3, 9), (3, 10), (3, 11), (3, 12), (3, 13), (3, 14), (3, 15), (3, 16)], jOw (dC, dI) G0 3 r0 s.heap), (jFdo, jDcc dC dI ca G0 (some r0) ph)] H_35 locs_35 → (0 ≤ v3_35.toInt ∧ v3_35.toInt ≤ ws_9.toInt) → (ws_9.toInt - v3_35.toInt : Int) < N → ∀ ls : Array Slot, lv_has ls 5 [(0, .ref r0), (1, .ref r1), (2, .int v2_9), (3, .int v3_35)] → W p l e R s m ([.ref r0, .ref r1] : List Value).toArray below meth c H_35 locs_35 0 0 Q (F0 m 139 ls []) := by
              intro N
              induction N with
              | zero => intro v3_35 H_35 locs_35 hh_35  hi_35 hm; exact absurd hm (by omega)
              | succ N L139 =>
                intro v3_35 H_35 locs_35 hh_35  hi_35 hm_35 ls hl
                obtain ⟨hi_35_0, hi_35_1⟩ := hi_35
                refine lv_iload_n hx hb dX1_part_139 rfl (lv_at hl 3 rfl) ?_
                refine lv_aload_n hx hb dX1_part_140 rfl (lv_at hl 0 rfl) ?_
                refine j7_read hx hb hown hK (C := RX1) (T := TX1) (N := 17) rfl hly_3_4 hlk_69 (hh_35.at 0 rfl) dX1_part_141 ?_
                refine lv_icmp_ge (tgt := 194) hx hb dX1_part_144 (by decide) (fun c_36 => ?_) (fun c_36 => ?_)
                · skip
                  have c_36' : v3_35.toInt ≥ ws_9.toInt := jb_ge (rfl) (rfl) c_36
                  rw [hQ]
                  exact W.vret hx hb hr (fun t ht hW => ⟨⟨(ws_9, fb_9, fe_9), rfl, by (try dsimp only); refine ⟨by omega, by omega, ?_, ?_⟩; exact jSn.ce hi_9_5 (by omega); (have h9 := hi_9_7.end (by omega) (by omega); omega), ⟨⟨⟨hh_35.rt (M1 := [(r0, 3, 4, .int ws_9)]) [0] rfl ht, by rw [ht]; exact hh_35.2.2.2.2.2.2.2.1.sub [1, 0] rfl⟩, by rw [ht]; exact hh_35.iv 0 rfl⟩, by rw [ht]; exact hh_35.2.2.2.2.2.2.2.2.sub (L1 := [(jFdo, jDcc dC dI ca G0 (some r0) ph)]) [1] rfl⟩⟩, by rw [ht]; try exact hh_35.1.1, fun q h9 hq => by rw [ht]; try exact hh_35.1.2.1 q h9 hq⟩) hh_35.1.2.2 dX1_part_194
                · skip
                  have c_36' : v3_35.toInt < ws_9.toInt := jb_ge_n (rfl) (rfl) c_36
                  refine lv_aload_n hx hb dX1_part_147 rfl (lv_at hl 0 rfl) ?_
                  obtain ⟨v_37, hv_37, hh_38⟩ := hh_35.pin (C := RX1) (T := TX1) (N := 17) hB3 rfl (by decide) hg_r0 (i := 7) (by decide) rfl
                  clear hh_35
                  obtain ⟨costs_39, rfl, hg_costs_39⟩ := hv_37
                  refine j7_read hx hb hown hK (C := RX1) (T := TX1) (N := 17) rfl hly_3_7 hlk_24 (hh_38.at 0 rfl) dX1_part_148 ?_
                  refine lv_iload_n hx hb dX1_part_151 rfl (lv_at hl 3 rfl) ?_
                  refine lv_iconst (v := 3) hx hb dX1_part_152 (by decide) ?_
                  refine lv_aload_n hx hb dX1_part_153 rfl (lv_at hl 0 rfl) ?_
                  obtain ⟨v_40, hv_40, hh_41⟩ := hh_38.pin (C := RX1) (T := TX1) (N := 17) hB3 rfl (by decide) hg_r0 (i := 8) (by decide) rfl
                  clear hh_38
                  obtain ⟨early_42, rfl, hg_early_42⟩ := hv_40
                  refine j7_read hx hb hown hK (C := RX1) (T := TX1) (N := 17) rfl hly_3_8 hlk_27 (hh_41.at 0 rfl) dX1_part_154 ?_
                  refine lv_iload_n hx hb dX1_part_157 rfl (lv_at hl 3 rfl) ?_
                  refine j7_iald hx hb hK hh_41 hB101 1 rfl (by decide) hg_early_42 (x := v3_35.toInt) (rfl) (by omega) dX1_part_158 (fun z_43 (hz_43 : True) => ?_)
                  refine lv_if_le (tgt := 166) hx hb dX1_part_159 (by decide) (fun c_44 => ?_) (fun c_44 => ?_)
                  · skip
                    have c_44' : z_43.toInt ≤ 0 := jb_le (rfl) ((by decide)) c_44
                    refine lv_aload_n hx hb dX1_part_166 rfl (lv_at hl 1 rfl) ?_
                    refine lv_aload_n hx hb dX1_part_167 rfl (lv_at hl 0 rfl) ?_
                    refine j7_read hx hb hown hK (C := RX1) (T := TX1) (N := 17) rfl hly_3_2 hlk_15 (hh_41.at 6 rfl) dX1_part_168 ?_
                    refine lv_aload_n hx hb dX1_part_171 rfl (lv_at hl 0 rfl) ?_
                    refine j7_read hx hb hown hK (C := RX1) (T := TX1) (N := 17) rfl hly_3_5 hlk_18 (hh_41.at 4 rfl) dX1_part_172 ?_
                    refine lv_iload_n hx hb dX1_part_175 rfl (lv_at hl 3 rfl) ?_
                    refine j7_ialdM hx hb hK hh_41 hB171 1 rfl (by decide) hg_sa_ (x := v3_35.toInt) (rfl) (by omega) (j := 1) rfl dX1_part_176 (fun z_45 ez_45 (hz_45 : 0 ≤ z_45.toInt ∧ z_45.toInt ≤ 1500) => ?_)
                    have hqz_45 : z_45.toInt = jSo fb_9 (v3_35.toInt) := by unfold jSo; rw [ez_45]
                    refine lv_aload_n hx hb dX1_part_177 rfl (lv_at hl 0 rfl) ?_
                    refine j7_read hx hb hown hK (C := RX1) (T := TX1) (N := 17) rfl hly_3_6 hlk_21 (hh_41.at 5 rfl) dX1_part_178 ?_
                    refine lv_iload_n hx hb dX1_part_181 rfl (lv_at hl 3 rfl) ?_
                    refine j7_ialdM hx hb hK hh_41 hB172 1 rfl (by decide) hg_ea_ (x := v3_35.toInt) (rfl) (by omega) (j := 0) rfl dX1_part_182 (fun z_46 ez_46 (hz_46 : 0 ≤ z_46.toInt ∧ z_46.toInt ≤ 1500) => ?_)
                    have hqz_46 : z_46.toInt = jSo fe_9 (v3_35.toInt) := by unfold jSo; rw [ez_46]
                    refine va_calli (A0 := jA base) (H0 := s.heap) (va_runV (As := [.ref tx_, .int z_45, .int z_46]) (rest := [.int 3, .int v3_35, .ref costs_39]) ⟨hx, hb, hml, hown, hts⟩ (uX10_scanBt9 l dC dI ca base B hB hAp hB8 hB12 hB101 hB102 hB132 hB133 hB173 hB293 G0 H_35 r1 tx_ z_45 z_46 1500) (cwV 3 hts (jgV (jWr_36 _ (List.mem_of_getElem? (i := 19) rfl)) (jWr_36 _ (List.mem_of_getElem? (i := 20) rfl)) (jWr_36 _ (List.mem_of_getElem? (i := 21) rfl)) (jWr_4 _ (List.mem_of_getElem? (i := 14) rfl)) (jWr_36 _ (List.mem_of_getElem? (i := 22) rfl))) rfl rfl rfl (by decide +kernel) ⟨by rw [← hR]; exact Nat.le_of_ble_eq_true rfl, by rw [← hR]; exact Nat.le_of_ble_eq_true rfl⟩) ⟨fun a U g mk q => by obtain ⟨q0, q1, q2, qK, q10, q11, q12, q13⟩ := q; exact ⟨q0, q1, q2, jG.calling g mk a qK, q10, q11, q12, q13⟩, hh_41.recv (C := RX10) (T := TX10) (N := 11) hB12 rfl (by decide) hg_r1 hK, fun U hU hW => ⟨rfl, hU, hh_41.2.1, hG.step hW hU hh_41.1, hg_r1, hg_tx_, jP.nil, by first | omega | (refine ⟨?_, ?_⟩ <;> (first | omega | rfl | assumption | decide | exact Or.inl rfl | exact Or.inr rfl | (simp only; omega)))⟩⟩ rfl rfl hl.1 rfl (lv_room (Nat.le_of_ble_eq_true rfl)) dX1_part_183 ⟨Nat.zero_le _, Nat.zero_le _⟩) hh_41.1 (fun q _ h => h) (fun q h => h) (fun r_48 u_47 t_47 H_47 locs_47 ht_47 hvm_47 hr_48 hb_47 hz_47 hk_47 hS_47 => ?_)
                    rw [ht_47] at hb_47
                    obtain ⟨hb_471, hb_472, hb_473, hb_474, hb_475⟩ := hb_47
                    have hh_47 : jSt (dC, dI) B base G0 G0 EX1_partP s.heap 0 0 [(r0, 3, 8, .ref early_42), (r0, 3, 7, .ref costs_39), (r0, 3, 4, .int ws_9), (r0, 3, 3, .int pl), (r0, 3, 5, .ref sa_), (r0, 3, 6, .ref ea_), (r0, 3, 2, .ref tx_)] [(ea_, 172, 40, ca 1, fe_9), (sa_, 171, 40, ca 1, fb_9), (tx_, 173, 1500, ca 1, ft)] [([(3, 0), (3, 1), (3, 2), (3, 3), (3, 4), (3, 5), (3, 6), (3, 7), (3, 8), (3, 9), (3, 10), (3, 11), (3, 12), (3, 13), (3, 14), (3, 15), (3, 16)], jOw (dC, dI) G0 3 r0 s.heap), (jFdo, jDcc dC dI ca G0 (some r0) ph)] H_47 locs_47 := ((hh_41.call hb_471 hb_472 hb_473 hb_474 hS_47 rfl (L1 := [(r0, 3, 8, .ref early_42), (r0, 3, 7, .ref costs_39), (r0, 3, 4, .int ws_9), (r0, 3, 3, .int pl), (r0, 3, 5, .ref sa_), (r0, 3, 6, .ref ea_), (r0, 3, 2, .ref tx_)]) [0, 1, 2, 3, 4, 5, 6] rfl rfl (M1 := [(ea_, 172, 40, ca 1, fe_9), (sa_, 171, 40, ca 1, fb_9), (tx_, 173, 1500, ca 1, ft)]) [0, 1, 2] rfl rfl (I1 := [([(3, 0), (3, 1), (3, 2), (3, 3), (3, 4), (3, 5), (3, 6), (3, 7), (3, 8), (3, 9), (3, 10), (3, 11), (3, 12), (3, 13), (3, 14), (3, 15), (3, 16)], jOw (dC, dI) G0 3 r0 s.heap), (jFdo, jDcc dC dI ca G0 (some r0) ph)]) [0, 1] rfl rfl).more hb_475)
                    clear hh_41 ht_47 hvm_47 hz_47 hk_47 hS_47 hb_471 hb_472 hb_473 hb_474 hb_475
                    obtain ⟨hr_48_0, hr_48_1⟩ := hr_48
                    refine lv_iadd hx hb dX1_part_186 ?_
                    refine lv_topi (fun z_49 ez_49 => ?_)
                    refine j7_iastL hx hb hK hh_47 hB hB101 1 rfl (by decide) (by decide) rfl rfl rfl hg_costs_39 (x := v3_35.toInt) (rfl) (by omega) (trivial) dX1_part_187 (fun H_50 locs_50 fs_51 hv_50 ho_50 hh_50 => ?_)
                    have hv_50 : jSo fs_51 (v3_35.toInt) = z_49.toInt := by unfold jSo; rw [hv_50]; try exact rfl
                    clear hh_47
                    obtain ⟨z_52, ez_52⟩ : ∃ y : Int32, y = v3_35 + 1 := ⟨_, rfl⟩
                    refine lv_iinc (v := z_52) (lv' := [(3, .int z_52), (0, .ref r0), (1, .ref r1), (2, .int v2_9)]) hx hb dX1_part_188 hl (k := 3) rfl (by rw [ez_52]; rfl) (by decide) rfl (fun ls hl => ?_)
                    have hz_52 : z_52.toInt = v3_35.toInt + 1 := by rw [ez_52]; exact jb_iadd2 (rfl) (by decide) (by omega)
                    refine lv_goto (tgt := 139) hx hb dX1_part_191 (by decide) ?_
                    exact L139 z_52 _ _ (hh_50.sub (L1 := [(r0, 3, 4, .int ws_9), (r0, 3, 3, .int pl), (r0, 3, 5, .ref sa_), (r0, 3, 6, .ref ea_), (r0, 3, 2, .ref tx_)]) [2, 3, 4, 5, 6] rfl (M1 := [(ea_, 172, 40, ca 1, fe_9), (sa_, 171, 40, ca 1, fb_9), (tx_, 173, 1500, ca 1, ft)]) [1, 2, 3] rfl (I1 := [([(3, 0), (3, 1), (3, 2), (3, 3), (3, 4), (3, 5), (3, 6), (3, 7), (3, 8), (3, 9), (3, 10), (3, 11), (3, 12), (3, 13), (3, 14), (3, 15), (3, 16)], jOw (dC, dI) G0 3 r0 s.heap), (jFdo, jDcc dC dI ca G0 (some r0) ph)]) [0, 1] rfl) (by first | omega | (refine ⟨?_, ?_⟩ <;> (first | omega | rfl | assumption | decide | exact Or.inl rfl | exact Or.inr rfl | (simp only; omega)))) (by omega) _ (lv_sub hl [1, 2, 3, 0] rfl)
                  · skip
                    have c_44' : z_43.toInt > 0 := jb_le_n (rfl) ((by decide)) c_44
                    refine lv_iconst (v := 1) hx hb dX1_part_162 (by decide) ?_
                    refine lv_goto (tgt := 186) hx hb dX1_part_163 (by decide) ?_
                    refine lv_iadd hx hb dX1_part_186 ?_
                    refine lv_topi (fun z_53 ez_53 => ?_)
                    refine j7_iastL hx hb hK hh_41 hB hB101 1 rfl (by decide) (by decide) rfl rfl rfl hg_costs_39 (x := v3_35.toInt) (rfl) (by omega) (trivial) dX1_part_187 (fun H_54 locs_54 fs_55 hv_54 ho_54 hh_54 => ?_)
                    have hv_54 : jSo fs_55 (v3_35.toInt) = z_53.toInt := by unfold jSo; rw [hv_54]; try exact rfl
                    clear hh_41
                    obtain ⟨z_56, ez_56⟩ : ∃ y : Int32, y = v3_35 + 1 := ⟨_, rfl⟩
                    refine lv_iinc (v := z_56) (lv' := [(3, .int z_56), (0, .ref r0), (1, .ref r1), (2, .int v2_9)]) hx hb dX1_part_188 hl (k := 3) rfl (by rw [ez_56]; rfl) (by decide) rfl (fun ls hl => ?_)
                    have hz_56 : z_56.toInt = v3_35.toInt + 1 := by rw [ez_56]; exact jb_iadd2 (rfl) (by decide) (by omega)
                    refine lv_goto (tgt := 139) hx hb dX1_part_191 (by decide) ?_
                    exact L139 z_56 _ _ (hh_54.sub (L1 := [(r0, 3, 4, .int ws_9), (r0, 3, 3, .int pl), (r0, 3, 5, .ref sa_), (r0, 3, 6, .ref ea_), (r0, 3, 2, .ref tx_)]) [2, 3, 4, 5, 6] rfl (M1 := [(ea_, 172, 40, ca 1, fe_9), (sa_, 171, 40, ca 1, fb_9), (tx_, 173, 1500, ca 1, ft)]) [1, 2, 3] rfl (I1 := [([(3, 0), (3, 1), (3, 2), (3, 3), (3, 4), (3, 5), (3, 6), (3, 7), (3, 8), (3, 9), (3, 10), (3, 11), (3, 12), (3, 13), (3, 14), (3, 15), (3, 16)], jOw (dC, dI) G0 3 r0 s.heap), (jFdo, jDcc dC dI ca G0 (some r0) ph)]) [0, 1] rfl) (by first | omega | (refine ⟨?_, ?_⟩ <;> (first | omega | rfl | assumption | decide | exact Or.inl rfl | exact Or.inr rfl | (simp only; omega)))) (by omega) _ (lv_sub hl [1, 2, 3, 0] rfl)
            exact L139 (ws_9.toInt - (0 : Int32).toInt : Int).toNat.succ 0 _ _ hh_9 (by first | omega | (refine ⟨?_, ?_⟩ <;> (first | omega | rfl | assumption | decide | exact Or.inl rfl | exact Or.inr rfl | (simp only; omega)))) (by omega) _ (lv_sub hl [1, 2, 3, 0] rfl)
          · skip
            have c_34' : ws_9.toInt = 40 := jb_ne_n (rfl) ((by decide)) c_34
            refine lv_aload_n hx hb dX1_part_118 rfl (lv_at hl 0 rfl) ?_
            refine j7_read hx hb hown hK (C := RX1) (T := TX1) (N := 17) rfl hly_3_6 hlk_21 (hh_9.at 3 rfl) dX1_part_119 ?_
            refine lv_bipush (v := 39) hx hb dX1_part_122 (by decide) ?_
            refine lv_aload_n hx hb dX1_part_124 rfl (lv_at hl 0 rfl) ?_
            refine j7_read hx hb hown hK (C := RX1) (T := TX1) (N := 17) rfl hly_3_3 hlk_42 (hh_9.at 1 rfl) dX1_part_125 ?_
            have hd_58 := hh_9.iv 1 rfl
            have hh_59 := hh_9.sub (L1 := [(r0, 3, 4, .int ws_9), (r0, 3, 3, .int pl), (r0, 3, 5, .ref sa_), (r0, 3, 6, .ref ea_), (r0, 3, 2, .ref tx_)]) [0, 1, 2, 3, 4] rfl (M1 := [(ea_, 172, 40, ca 1, fe_9), (sa_, 171, 40, ca 1, fb_9), (tx_, 173, 1500, ca 1, ft)]) [0, 1, 2] rfl (I1 := [([(3, 0), (3, 1), (3, 2), (3, 3), (3, 4), (3, 5), (3, 6), (3, 7), (3, 8), (3, 9), (3, 10), (3, 11), (3, 12), (3, 13), (3, 14), (3, 15), (3, 16)], jOw (dC, dI) G0 3 r0 s.heap)]) [0] rfl
            clear hh_9
            have hd_58f := hh_59.at 3 rfl
            refine j7_iastX hx hb hK hh_59 hB hB172 1 rfl (by decide) (by decide) rfl 0 rfl (M1 := [(sa_, 171, 40, ca 1, fb_9), (tx_, 173, 1500, ca 1, ft)]) [1, 2] rfl rfl rfl hg_ea_ (x := 39) ((by decide)) (by omega) (by first | omega | (refine ⟨?_, ?_⟩ <;> (first | omega | rfl | assumption | decide | exact Or.inl rfl | exact Or.inr rfl | (simp only; omega)))) dX1_part_128 (fun H_57 locs_57 fs_60 hv_57 ho_57 hr_57 hh_57 => ?_)
            have hv_57 : jSo fs_60 (39) = pl.toInt := by unfold jSo; rw [hv_57]; try exact rfl
            clear hh_59
            have hd_58n := jDcc.arr hd_58 hg_r0 hg_ea_ (Or.inr ⟨rfl, hd_58f⟩) hr_57
            have hh_61 := hh_57.addI (jDcc.ie hd_58n)
            clear hh_57
            clear hd_58 hd_58f hd_58n hr_57
            refine lv_aload_n hx hb dX1_part_129 rfl (lv_at hl 0 rfl) ?_
            obtain ⟨v_62, hv_62, hh_63⟩ := hh_61.pin (C := RX1) (T := TX1) (N := 17) hB3 rfl (by decide) hg_r0 (i := 8) (by decide) rfl
            clear hh_61
            obtain ⟨early_64, rfl, hg_early_64⟩ := hv_62
            refine j7_read hx hb hown hK (C := RX1) (T := TX1) (N := 17) rfl hly_3_8 hlk_27 (hh_63.at 0 rfl) dX1_part_130 ?_
            refine lv_bipush (v := 39) hx hb dX1_part_133 (by decide) ?_
            refine lv_iconst (v := 2) hx hb dX1_part_135 (by decide) ?_
            refine j7_iastL hx hb hK hh_63 hB hB101 1 rfl (by decide) (by decide) rfl rfl rfl hg_early_64 (x := 39) ((by decide)) (by omega) (trivial) dX1_part_136 (fun H_65 locs_65 fs_66 hv_65 ho_65 hh_65 => ?_)
            have hv_65 : jSo fs_66 (39) = 2 := by unfold jSo; rw [hv_65]; try exact (by decide)
            clear hh_63
            refine lv_iconst (v := 0) hx hb dX1_part_137 (by decide) ?_
            refine lv_istore_n (lv' := [(3, .int 0), (0, .ref r0), (1, .ref r1), (2, .int v2_9)]) hx hb dX1_part_138 rfl hl (by decide) rfl (fun ls hl => ?_)
            have L139 : ∀ (N : Nat) (v3_67 : Int32) (H_67 : Heap) (locs_67 : List Loc), jSt (dC, dI) B base G0 G0 EX1_partP s.heap 0 0 [(r0, 3, 8, .ref early_64), (r0, 3, 4, .int ws_9), (r0, 3, 3, .int pl), (r0, 3, 5, .ref sa_), (r0, 3, 6, .ref ea_), (r0, 3, 2, .ref tx_)] [(ea_, 172, 40, ca 1, fs_60), (sa_, 171, 40, ca 1, fb_9), (tx_, 173, 1500, ca 1, ft)] [(jFdo, jDcc dC dI ca G0 (some r0) ph), ([(3, 0), (3, 1), (3, 2), (3, 3), (3, 4), (3, 5), (3, 6), (3, 7), (3, 8), (3, 9), (3, 10), (3, 11), (3, 12), (3, 13), (3, 14), (3, 15), (3, 16)], jOw (dC, dI) G0 3 r0 s.heap)] H_67 locs_67 → (0 ≤ v3_67.toInt ∧ v3_67.toInt ≤ ws_9.toInt) → (ws_9.toInt - v3_67.toInt : Int) < N → ∀ ls : Array Slot, lv_has ls 5 [(0, .ref r0), (1, .ref r1), (2, .int v2_9), (3, .int v3_67)] → W p l e R s m ([.ref r0, .ref r1] : List Value).toArray below meth c H_67 locs_67 0 0 Q (F0 m 139 ls []) := by
              intro N
              induction N with
              | zero => intro v3_67 H_67 locs_67 hh_67  hi_67 hm; exact absurd hm (by omega)
              | succ N L139 =>
                intro v3_67 H_67 locs_67 hh_67  hi_67 hm_67 ls hl
                obtain ⟨hi_67_0, hi_67_1⟩ := hi_67
                refine lv_iload_n hx hb dX1_part_139 rfl (lv_at hl 3 rfl) ?_
                refine lv_aload_n hx hb dX1_part_140 rfl (lv_at hl 0 rfl) ?_
                refine j7_read hx hb hown hK (C := RX1) (T := TX1) (N := 17) rfl hly_3_4 hlk_69 (hh_67.at 1 rfl) dX1_part_141 ?_
                refine lv_icmp_ge (tgt := 194) hx hb dX1_part_144 (by decide) (fun c_68 => ?_) (fun c_68 => ?_)
                · skip
                  have c_68' : v3_67.toInt ≥ ws_9.toInt := jb_ge (rfl) (rfl) c_68
                  rw [hQ]
                  exact W.vret hx hb hr (fun t ht hW => ⟨⟨(ws_9, fb_9, fs_60), rfl, by (try dsimp only); refine ⟨by omega, by omega, ?_, ?_⟩; exact jSn.last (jSn.ce hi_9_5 (by omega)) (by omega) hv_57 ho_57; (have h9 := hi_9_7.end (by omega) (by omega); omega), ⟨⟨⟨hh_67.rt (M1 := [(r0, 3, 4, .int ws_9)]) [1] rfl ht, by rw [ht]; exact hh_67.2.2.2.2.2.2.2.1.sub [1, 0] rfl⟩, by rw [ht]; exact hh_67.iv 1 rfl⟩, by rw [ht]; exact hh_67.2.2.2.2.2.2.2.2.sub (L1 := [(jFdo, jDcc dC dI ca G0 (some r0) ph)]) [0] rfl⟩⟩, by rw [ht]; try exact hh_67.1.1, fun q h9 hq => by rw [ht]; try exact hh_67.1.2.1 q h9 hq⟩) hh_67.1.2.2 dX1_part_194
                · skip
                  have c_68' : v3_67.toInt < ws_9.toInt := jb_ge_n (rfl) (rfl) c_68
                  refine lv_aload_n hx hb dX1_part_147 rfl (lv_at hl 0 rfl) ?_
                  obtain ⟨v_69, hv_69, hh_70⟩ := hh_67.pin (C := RX1) (T := TX1) (N := 17) hB3 rfl (by decide) hg_r0 (i := 7) (by decide) rfl
                  clear hh_67
                  obtain ⟨costs_71, rfl, hg_costs_71⟩ := hv_69
                  refine j7_read hx hb hown hK (C := RX1) (T := TX1) (N := 17) rfl hly_3_7 hlk_24 (hh_70.at 0 rfl) dX1_part_148 ?_
                  refine lv_iload_n hx hb dX1_part_151 rfl (lv_at hl 3 rfl) ?_
                  refine lv_iconst (v := 3) hx hb dX1_part_152 (by decide) ?_
                  refine lv_aload_n hx hb dX1_part_153 rfl (lv_at hl 0 rfl) ?_
                  refine j7_read hx hb hown hK (C := RX1) (T := TX1) (N := 17) rfl hly_3_8 hlk_27 (hh_70.at 1 rfl) dX1_part_154 ?_
                  refine lv_iload_n hx hb dX1_part_157 rfl (lv_at hl 3 rfl) ?_
                  refine j7_iald hx hb hK hh_70 hB101 1 rfl (by decide) hg_early_64 (x := v3_67.toInt) (rfl) (by omega) dX1_part_158 (fun z_72 (hz_72 : True) => ?_)
                  refine lv_if_le (tgt := 166) hx hb dX1_part_159 (by decide) (fun c_73 => ?_) (fun c_73 => ?_)
                  · skip
                    have c_73' : z_72.toInt ≤ 0 := jb_le (rfl) ((by decide)) c_73
                    refine lv_aload_n hx hb dX1_part_166 rfl (lv_at hl 1 rfl) ?_
                    refine lv_aload_n hx hb dX1_part_167 rfl (lv_at hl 0 rfl) ?_
                    refine j7_read hx hb hown hK (C := RX1) (T := TX1) (N := 17) rfl hly_3_2 hlk_15 (hh_70.at 6 rfl) dX1_part_168 ?_
                    refine lv_aload_n hx hb dX1_part_171 rfl (lv_at hl 0 rfl) ?_
                    refine j7_read hx hb hown hK (C := RX1) (T := TX1) (N := 17) rfl hly_3_5 hlk_18 (hh_70.at 4 rfl) dX1_part_172 ?_
                    refine lv_iload_n hx hb dX1_part_175 rfl (lv_at hl 3 rfl) ?_
                    refine j7_ialdM hx hb hK hh_70 hB171 1 rfl (by decide) hg_sa_ (x := v3_67.toInt) (rfl) (by omega) (j := 1) rfl dX1_part_176 (fun z_74 ez_74 (hz_74 : 0 ≤ z_74.toInt ∧ z_74.toInt ≤ 1500) => ?_)
                    have hqz_74 : z_74.toInt = jSo fb_9 (v3_67.toInt) := by unfold jSo; rw [ez_74]
                    refine lv_aload_n hx hb dX1_part_177 rfl (lv_at hl 0 rfl) ?_
                    refine j7_read hx hb hown hK (C := RX1) (T := TX1) (N := 17) rfl hly_3_6 hlk_21 (hh_70.at 5 rfl) dX1_part_178 ?_
                    refine lv_iload_n hx hb dX1_part_181 rfl (lv_at hl 3 rfl) ?_
                    refine j7_ialdM hx hb hK hh_70 hB172 1 rfl (by decide) hg_ea_ (x := v3_67.toInt) (rfl) (by omega) (j := 0) rfl dX1_part_182 (fun z_75 ez_75 (hz_75 : 0 ≤ z_75.toInt ∧ z_75.toInt ≤ 1500) => ?_)
                    have hqz_75 : z_75.toInt = jSo fs_60 (v3_67.toInt) := by unfold jSo; rw [ez_75]
                    refine va_calli (A0 := jA base) (H0 := s.heap) (va_runV (As := [.ref tx_, .int z_74, .int z_75]) (rest := [.int 3, .int v3_67, .ref costs_71]) ⟨hx, hb, hml, hown, hts⟩ (uX10_scanBt9 l dC dI ca base B hB hAp hB8 hB12 hB101 hB102 hB132 hB133 hB173 hB293 G0 H_67 r1 tx_ z_74 z_75 1500) (cwV 3 hts (jgV (jWr_36 _ (List.mem_of_getElem? (i := 19) rfl)) (jWr_36 _ (List.mem_of_getElem? (i := 20) rfl)) (jWr_36 _ (List.mem_of_getElem? (i := 21) rfl)) (jWr_4 _ (List.mem_of_getElem? (i := 14) rfl)) (jWr_36 _ (List.mem_of_getElem? (i := 22) rfl))) rfl rfl rfl (by decide +kernel) ⟨by rw [← hR]; exact Nat.le_of_ble_eq_true rfl, by rw [← hR]; exact Nat.le_of_ble_eq_true rfl⟩) ⟨fun a U g mk q => by obtain ⟨q0, q1, q2, qK, q10, q11, q12, q13⟩ := q; exact ⟨q0, q1, q2, jG.calling g mk a qK, q10, q11, q12, q13⟩, hh_70.recv (C := RX10) (T := TX10) (N := 11) hB12 rfl (by decide) hg_r1 hK, fun U hU hW => ⟨rfl, hU, hh_70.2.1, hG.step hW hU hh_70.1, hg_r1, hg_tx_, jP.nil, by first | omega | (refine ⟨?_, ?_⟩ <;> (first | omega | rfl | assumption | decide | exact Or.inl rfl | exact Or.inr rfl | (simp only; omega)))⟩⟩ rfl rfl hl.1 rfl (lv_room (Nat.le_of_ble_eq_true rfl)) dX1_part_183 ⟨Nat.zero_le _, Nat.zero_le _⟩) hh_70.1 (fun q _ h => h) (fun q h => h) (fun r_77 u_76 t_76 H_76 locs_76 ht_76 hvm_76 hr_77 hb_76 hz_76 hk_76 hS_76 => ?_)
                    rw [ht_76] at hb_76
                    obtain ⟨hb_761, hb_762, hb_763, hb_764, hb_765⟩ := hb_76
                    have hh_76 : jSt (dC, dI) B base G0 G0 EX1_partP s.heap 0 0 [(r0, 3, 7, .ref costs_71), (r0, 3, 8, .ref early_64), (r0, 3, 4, .int ws_9), (r0, 3, 3, .int pl), (r0, 3, 5, .ref sa_), (r0, 3, 6, .ref ea_), (r0, 3, 2, .ref tx_)] [(ea_, 172, 40, ca 1, fs_60), (sa_, 171, 40, ca 1, fb_9), (tx_, 173, 1500, ca 1, ft)] [(jFdo, jDcc dC dI ca G0 (some r0) ph), ([(3, 0), (3, 1), (3, 2), (3, 3), (3, 4), (3, 5), (3, 6), (3, 7), (3, 8), (3, 9), (3, 10), (3, 11), (3, 12), (3, 13), (3, 14), (3, 15), (3, 16)], jOw (dC, dI) G0 3 r0 s.heap)] H_76 locs_76 := ((hh_70.call hb_761 hb_762 hb_763 hb_764 hS_76 rfl (L1 := [(r0, 3, 7, .ref costs_71), (r0, 3, 8, .ref early_64), (r0, 3, 4, .int ws_9), (r0, 3, 3, .int pl), (r0, 3, 5, .ref sa_), (r0, 3, 6, .ref ea_), (r0, 3, 2, .ref tx_)]) [0, 1, 2, 3, 4, 5, 6] rfl rfl (M1 := [(ea_, 172, 40, ca 1, fs_60), (sa_, 171, 40, ca 1, fb_9), (tx_, 173, 1500, ca 1, ft)]) [0, 1, 2] rfl rfl (I1 := [(jFdo, jDcc dC dI ca G0 (some r0) ph), ([(3, 0), (3, 1), (3, 2), (3, 3), (3, 4), (3, 5), (3, 6), (3, 7), (3, 8), (3, 9), (3, 10), (3, 11), (3, 12), (3, 13), (3, 14), (3, 15), (3, 16)], jOw (dC, dI) G0 3 r0 s.heap)]) [0, 1] rfl rfl).more hb_765)
                    clear hh_70 ht_76 hvm_76 hz_76 hk_76 hS_76 hb_761 hb_762 hb_763 hb_764 hb_765
                    obtain ⟨hr_77_0, hr_77_1⟩ := hr_77
                    refine lv_iadd hx hb dX1_part_186 ?_
                    refine lv_topi (fun z_78 ez_78 => ?_)
                    refine j7_iastL hx hb hK hh_76 hB hB101 1 rfl (by decide) (by decide) rfl rfl rfl hg_costs_71 (x := v3_67.toInt) (rfl) (by omega) (trivial) dX1_part_187 (fun H_79 locs_79 fs_80 hv_79 ho_79 hh_79 => ?_)
                    have hv_79 : jSo fs_80 (v3_67.toInt) = z_78.toInt := by unfold jSo; rw [hv_79]; try exact rfl
                    clear hh_76
                    obtain ⟨z_81, ez_81⟩ : ∃ y : Int32, y = v3_67 + 1 := ⟨_, rfl⟩
                    refine lv_iinc (v := z_81) (lv' := [(3, .int z_81), (0, .ref r0), (1, .ref r1), (2, .int v2_9)]) hx hb dX1_part_188 hl (k := 3) rfl (by rw [ez_81]; rfl) (by decide) rfl (fun ls hl => ?_)
                    have hz_81 : z_81.toInt = v3_67.toInt + 1 := by rw [ez_81]; exact jb_iadd2 (rfl) (by decide) (by omega)
                    refine lv_goto (tgt := 139) hx hb dX1_part_191 (by decide) ?_
                    exact L139 z_81 _ _ (hh_79.sub (L1 := [(r0, 3, 8, .ref early_64), (r0, 3, 4, .int ws_9), (r0, 3, 3, .int pl), (r0, 3, 5, .ref sa_), (r0, 3, 6, .ref ea_), (r0, 3, 2, .ref tx_)]) [1, 2, 3, 4, 5, 6] rfl (M1 := [(ea_, 172, 40, ca 1, fs_60), (sa_, 171, 40, ca 1, fb_9), (tx_, 173, 1500, ca 1, ft)]) [1, 2, 3] rfl (I1 := [(jFdo, jDcc dC dI ca G0 (some r0) ph), ([(3, 0), (3, 1), (3, 2), (3, 3), (3, 4), (3, 5), (3, 6), (3, 7), (3, 8), (3, 9), (3, 10), (3, 11), (3, 12), (3, 13), (3, 14), (3, 15), (3, 16)], jOw (dC, dI) G0 3 r0 s.heap)]) [0, 1] rfl) (by first | omega | (refine ⟨?_, ?_⟩ <;> (first | omega | rfl | assumption | decide | exact Or.inl rfl | exact Or.inr rfl | (simp only; omega)))) (by omega) _ (lv_sub hl [1, 2, 3, 0] rfl)
                  · skip
                    have c_73' : z_72.toInt > 0 := jb_le_n (rfl) ((by decide)) c_73
                    refine lv_iconst (v := 1) hx hb dX1_part_162 (by decide) ?_
                    refine lv_goto (tgt := 186) hx hb dX1_part_163 (by decide) ?_
                    refine lv_iadd hx hb dX1_part_186 ?_
                    refine lv_topi (fun z_82 ez_82 => ?_)
                    refine j7_iastL hx hb hK hh_70 hB hB101 1 rfl (by decide) (by decide) rfl rfl rfl hg_costs_71 (x := v3_67.toInt) (rfl) (by omega) (trivial) dX1_part_187 (fun H_83 locs_83 fs_84 hv_83 ho_83 hh_83 => ?_)
                    have hv_83 : jSo fs_84 (v3_67.toInt) = z_82.toInt := by unfold jSo; rw [hv_83]; try exact rfl
                    clear hh_70
                    obtain ⟨z_85, ez_85⟩ : ∃ y : Int32, y = v3_67 + 1 := ⟨_, rfl⟩
                    refine lv_iinc (v := z_85) (lv' := [(3, .int z_85), (0, .ref r0), (1, .ref r1), (2, .int v2_9)]) hx hb dX1_part_188 hl (k := 3) rfl (by rw [ez_85]; rfl) (by decide) rfl (fun ls hl => ?_)
                    have hz_85 : z_85.toInt = v3_67.toInt + 1 := by rw [ez_85]; exact jb_iadd2 (rfl) (by decide) (by omega)
                    refine lv_goto (tgt := 139) hx hb dX1_part_191 (by decide) ?_
                    exact L139 z_85 _ _ (hh_83.sub (L1 := [(r0, 3, 8, .ref early_64), (r0, 3, 4, .int ws_9), (r0, 3, 3, .int pl), (r0, 3, 5, .ref sa_), (r0, 3, 6, .ref ea_), (r0, 3, 2, .ref tx_)]) [1, 2, 3, 4, 5, 6] rfl (M1 := [(ea_, 172, 40, ca 1, fs_60), (sa_, 171, 40, ca 1, fb_9), (tx_, 173, 1500, ca 1, ft)]) [1, 2, 3] rfl (I1 := [(jFdo, jDcc dC dI ca G0 (some r0) ph), ([(3, 0), (3, 1), (3, 2), (3, 3), (3, 4), (3, 5), (3, 6), (3, 7), (3, 8), (3, 9), (3, 10), (3, 11), (3, 12), (3, 13), (3, 14), (3, 15), (3, 16)], jOw (dC, dI) G0 3 r0 s.heap)]) [0, 1] rfl) (by first | omega | (refine ⟨?_, ?_⟩ <;> (first | omega | rfl | assumption | decide | exact Or.inl rfl | exact Or.inr rfl | (simp only; omega)))) (by omega) _ (lv_sub hl [1, 2, 3, 0] rfl)
            exact L139 (ws_9.toInt - (0 : Int32).toInt : Int).toNat.succ 0 _ _ (hh_65.sub (L1 := [(r0, 3, 8, .ref early_64), (r0, 3, 4, .int ws_9), (r0, 3, 3, .int pl), (r0, 3, 5, .ref sa_), (r0, 3, 6, .ref ea_), (r0, 3, 2, .ref tx_)]) [0, 1, 2, 3, 4, 5] rfl (M1 := [(ea_, 172, 40, ca 1, fs_60), (sa_, 171, 40, ca 1, fb_9), (tx_, 173, 1500, ca 1, ft)]) [1, 2, 3] rfl (I1 := [(jFdo, jDcc dC dI ca G0 (some r0) ph), ([(3, 0), (3, 1), (3, 2), (3, 3), (3, 4), (3, 5), (3, 6), (3, 7), (3, 8), (3, 9), (3, 10), (3, 11), (3, 12), (3, 13), (3, 14), (3, 15), (3, 16)], jOw (dC, dI) G0 3 r0 s.heap)]) [0, 1] rfl) (by first | omega | (refine ⟨?_, ?_⟩ <;> (first | omega | rfl | assumption | decide | exact Or.inl rfl | exact Or.inr rfl | (simp only; omega)))) (by omega) _ (lv_sub hl [1, 2, 3, 0] rfl)
      · skip
        have c_10' : v3_9.toInt < 40 := jb_ge_n (rfl) ((by decide)) c_10
        refine lv_iload_n hx hb dX1_part_19 rfl (lv_at hl 2 rfl) ?_
        refine lv_aload_n hx hb dX1_part_20 rfl (lv_at hl 0 rfl) ?_
        refine j7_read hx hb hown hK (C := RX1) (T := TX1) (N := 17) rfl hly_3_3 hlk_42 (hh_9.at 1 rfl) dX1_part_21 ?_
        refine lv_icmp_ge (tgt := 101) hx hb dX1_part_24 (by decide) (fun c_86 => ?_) (fun c_86 => ?_)
        · skip
          have c_86' : v2_9.toInt ≥ pl.toInt := jb_ge (rfl) (rfl) c_86
          refine lv_iload_n hx hb dX1_part_101 rfl (lv_at hl 2 rfl) ?_
          refine lv_aload_n hx hb dX1_part_102 rfl (lv_at hl 0 rfl) ?_
          refine j7_read hx hb hown hK (C := RX1) (T := TX1) (N := 17) rfl hly_3_3 hlk_42 (hh_9.at 1 rfl) dX1_part_103 ?_
          refine lv_icmp_ge (tgt := 137) hx hb dX1_part_106 (by decide) (fun c_87 => ?_) (fun c_87 => ?_)
          · skip
            have c_87' : v2_9.toInt ≥ pl.toInt := jb_ge (rfl) (rfl) c_87
            refine lv_iconst (v := 0) hx hb dX1_part_137 (by decide) ?_
            refine lv_istore_n (lv' := [(3, .int 0), (0, .ref r0), (1, .ref r1), (2, .int v2_9)]) hx hb dX1_part_138 rfl hl (by decide) rfl (fun ls hl => ?_)
            have L139 : ∀ (N : Nat) (v3_88 : Int32) (H_88 : Heap) (locs_88 : List Loc), jSt (dC, dI) B base G0 G0 EX1_partP s.heap 0 0 [(r0, 3, 4, .int ws_9), (r0, 3, 3, .int pl), (r0, 3, 5, .ref sa_), (r0, 3, 6, .ref ea_), (r0, 3, 2, .ref tx_)] [(ea_, 172, 40, ca 1, fe_9), (sa_, 171, 40, ca 1, fb_9), (tx_, 173, 1500, ca 1, ft)] [([(3, 0), (3, 1), (3, 2), (3, 3), (3, 4), (3, 5), (3, 6), (3, 7), (3, 8), (3, 9), (3, 10), (3, 11), (3, 12), (3, 13), (3, 14), (3, 15), (3, 16)], jOw (dC, dI) G0 3 r0 s.heap), (jFdo, jDcc dC dI ca G0 (some r0) ph)] H_88 locs_88 → (0 ≤ v3_88.toInt ∧ v3_88.toInt ≤ ws_9.toInt) → (ws_9.toInt - v3_88.toInt : Int) < N → ∀ ls : Array Slot, lv_has ls 5 [(0, .ref r0), (1, .ref r1), (2, .int v2_9), (3, .int v3_88)] → W p l e R s m ([.ref r0, .ref r1] : List Value).toArray below meth c H_88 locs_88 0 0 Q (F0 m 139 ls []) := by
              intro N
              induction N with
              | zero => intro v3_88 H_88 locs_88 hh_88  hi_88 hm; exact absurd hm (by omega)
              | succ N L139 =>
                intro v3_88 H_88 locs_88 hh_88  hi_88 hm_88 ls hl
                obtain ⟨hi_88_0, hi_88_1⟩ := hi_88
                refine lv_iload_n hx hb dX1_part_139 rfl (lv_at hl 3 rfl) ?_
                refine lv_aload_n hx hb dX1_part_140 rfl (lv_at hl 0 rfl) ?_
                refine j7_read hx hb hown hK (C := RX1) (T := TX1) (N := 17) rfl hly_3_4 hlk_69 (hh_88.at 0 rfl) dX1_part_141 ?_
                refine lv_icmp_ge (tgt := 194) hx hb dX1_part_144 (by decide) (fun c_89 => ?_) (fun c_89 => ?_)
                · skip
                  have c_89' : v3_88.toInt ≥ ws_9.toInt := jb_ge (rfl) (rfl) c_89
                  rw [hQ]
                  exact W.vret hx hb hr (fun t ht hW => ⟨⟨(ws_9, fb_9, fe_9), rfl, by (try dsimp only); refine ⟨by omega, by omega, ?_, ?_⟩; exact jSn.ce hi_9_5 (by omega); (have h9 := hi_9_7.end (by omega) (by omega); omega), ⟨⟨⟨hh_88.rt (M1 := [(r0, 3, 4, .int ws_9)]) [0] rfl ht, by rw [ht]; exact hh_88.2.2.2.2.2.2.2.1.sub [1, 0] rfl⟩, by rw [ht]; exact hh_88.iv 0 rfl⟩, by rw [ht]; exact hh_88.2.2.2.2.2.2.2.2.sub (L1 := [(jFdo, jDcc dC dI ca G0 (some r0) ph)]) [1] rfl⟩⟩, by rw [ht]; try exact hh_88.1.1, fun q h9 hq => by rw [ht]; try exact hh_88.1.2.1 q h9 hq⟩) hh_88.1.2.2 dX1_part_194
                · skip
                  have c_89' : v3_88.toInt < ws_9.toInt := jb_ge_n (rfl) (rfl) c_89
                  refine lv_aload_n hx hb dX1_part_147 rfl (lv_at hl 0 rfl) ?_
                  obtain ⟨v_90, hv_90, hh_91⟩ := hh_88.pin (C := RX1) (T := TX1) (N := 17) hB3 rfl (by decide) hg_r0 (i := 7) (by decide) rfl
                  clear hh_88
                  obtain ⟨costs_92, rfl, hg_costs_92⟩ := hv_90
                  refine j7_read hx hb hown hK (C := RX1) (T := TX1) (N := 17) rfl hly_3_7 hlk_24 (hh_91.at 0 rfl) dX1_part_148 ?_
                  refine lv_iload_n hx hb dX1_part_151 rfl (lv_at hl 3 rfl) ?_
                  refine lv_iconst (v := 3) hx hb dX1_part_152 (by decide) ?_
                  refine lv_aload_n hx hb dX1_part_153 rfl (lv_at hl 0 rfl) ?_
                  obtain ⟨v_93, hv_93, hh_94⟩ := hh_91.pin (C := RX1) (T := TX1) (N := 17) hB3 rfl (by decide) hg_r0 (i := 8) (by decide) rfl
                  clear hh_91
                  obtain ⟨early_95, rfl, hg_early_95⟩ := hv_93
                  refine j7_read hx hb hown hK (C := RX1) (T := TX1) (N := 17) rfl hly_3_8 hlk_27 (hh_94.at 0 rfl) dX1_part_154 ?_
                  refine lv_iload_n hx hb dX1_part_157 rfl (lv_at hl 3 rfl) ?_
                  refine j7_iald hx hb hK hh_94 hB101 1 rfl (by decide) hg_early_95 (x := v3_88.toInt) (rfl) (by omega) dX1_part_158 (fun z_96 (hz_96 : True) => ?_)
                  refine lv_if_le (tgt := 166) hx hb dX1_part_159 (by decide) (fun c_97 => ?_) (fun c_97 => ?_)
                  · skip
                    have c_97' : z_96.toInt ≤ 0 := jb_le (rfl) ((by decide)) c_97
                    refine lv_aload_n hx hb dX1_part_166 rfl (lv_at hl 1 rfl) ?_
                    refine lv_aload_n hx hb dX1_part_167 rfl (lv_at hl 0 rfl) ?_
                    refine j7_read hx hb hown hK (C := RX1) (T := TX1) (N := 17) rfl hly_3_2 hlk_15 (hh_94.at 6 rfl) dX1_part_168 ?_
                    refine lv_aload_n hx hb dX1_part_171 rfl (lv_at hl 0 rfl) ?_
                    refine j7_read hx hb hown hK (C := RX1) (T := TX1) (N := 17) rfl hly_3_5 hlk_18 (hh_94.at 4 rfl) dX1_part_172 ?_
                    refine lv_iload_n hx hb dX1_part_175 rfl (lv_at hl 3 rfl) ?_
                    refine j7_ialdM hx hb hK hh_94 hB171 1 rfl (by decide) hg_sa_ (x := v3_88.toInt) (rfl) (by omega) (j := 1) rfl dX1_part_176 (fun z_98 ez_98 (hz_98 : 0 ≤ z_98.toInt ∧ z_98.toInt ≤ 1500) => ?_)
                    have hqz_98 : z_98.toInt = jSo fb_9 (v3_88.toInt) := by unfold jSo; rw [ez_98]
                    refine lv_aload_n hx hb dX1_part_177 rfl (lv_at hl 0 rfl) ?_
                    refine j7_read hx hb hown hK (C := RX1) (T := TX1) (N := 17) rfl hly_3_6 hlk_21 (hh_94.at 5 rfl) dX1_part_178 ?_
                    refine lv_iload_n hx hb dX1_part_181 rfl (lv_at hl 3 rfl) ?_
                    refine j7_ialdM hx hb hK hh_94 hB172 1 rfl (by decide) hg_ea_ (x := v3_88.toInt) (rfl) (by omega) (j := 0) rfl dX1_part_182 (fun z_99 ez_99 (hz_99 : 0 ≤ z_99.toInt ∧ z_99.toInt ≤ 1500) => ?_)
                    have hqz_99 : z_99.toInt = jSo fe_9 (v3_88.toInt) := by unfold jSo; rw [ez_99]
                    refine va_calli (A0 := jA base) (H0 := s.heap) (va_runV (As := [.ref tx_, .int z_98, .int z_99]) (rest := [.int 3, .int v3_88, .ref costs_92]) ⟨hx, hb, hml, hown, hts⟩ (uX10_scanBt9 l dC dI ca base B hB hAp hB8 hB12 hB101 hB102 hB132 hB133 hB173 hB293 G0 H_88 r1 tx_ z_98 z_99 1500) (cwV 3 hts (jgV (jWr_36 _ (List.mem_of_getElem? (i := 19) rfl)) (jWr_36 _ (List.mem_of_getElem? (i := 20) rfl)) (jWr_36 _ (List.mem_of_getElem? (i := 21) rfl)) (jWr_4 _ (List.mem_of_getElem? (i := 14) rfl)) (jWr_36 _ (List.mem_of_getElem? (i := 22) rfl))) rfl rfl rfl (by decide +kernel) ⟨by rw [← hR]; exact Nat.le_of_ble_eq_true rfl, by rw [← hR]; exact Nat.le_of_ble_eq_true rfl⟩) ⟨fun a U g mk q => by obtain ⟨q0, q1, q2, qK, q10, q11, q12, q13⟩ := q; exact ⟨q0, q1, q2, jG.calling g mk a qK, q10, q11, q12, q13⟩, hh_94.recv (C := RX10) (T := TX10) (N := 11) hB12 rfl (by decide) hg_r1 hK, fun U hU hW => ⟨rfl, hU, hh_94.2.1, hG.step hW hU hh_94.1, hg_r1, hg_tx_, jP.nil, by first | omega | (refine ⟨?_, ?_⟩ <;> (first | omega | rfl | assumption | decide | exact Or.inl rfl | exact Or.inr rfl | (simp only; omega)))⟩⟩ rfl rfl hl.1 rfl (lv_room (Nat.le_of_ble_eq_true rfl)) dX1_part_183 ⟨Nat.zero_le _, Nat.zero_le _⟩) hh_94.1 (fun q _ h => h) (fun q h => h) (fun r_101 u_100 t_100 H_100 locs_100 ht_100 hvm_100 hr_101 hb_100 hz_100 hk_100 hS_100 => ?_)
                    rw [ht_100] at hb_100
                    obtain ⟨hb_1001, hb_1002, hb_1003, hb_1004, hb_1005⟩ := hb_100
                    have hh_100 : jSt (dC, dI) B base G0 G0 EX1_partP s.heap 0 0 [(r0, 3, 8, .ref early_95), (r0, 3, 7, .ref costs_92), (r0, 3, 4, .int ws_9), (r0, 3, 3, .int pl), (r0, 3, 5, .ref sa_), (r0, 3, 6, .ref ea_), (r0, 3, 2, .ref tx_)] [(ea_, 172, 40, ca 1, fe_9), (sa_, 171, 40, ca 1, fb_9), (tx_, 173, 1500, ca 1, ft)] [([(3, 0), (3, 1), (3, 2), (3, 3), (3, 4), (3, 5), (3, 6), (3, 7), (3, 8), (3, 9), (3, 10), (3, 11), (3, 12), (3, 13), (3, 14), (3, 15), (3, 16)], jOw (dC, dI) G0 3 r0 s.heap), (jFdo, jDcc dC dI ca G0 (some r0) ph)] H_100 locs_100 := ((hh_94.call hb_1001 hb_1002 hb_1003 hb_1004 hS_100 rfl (L1 := [(r0, 3, 8, .ref early_95), (r0, 3, 7, .ref costs_92), (r0, 3, 4, .int ws_9), (r0, 3, 3, .int pl), (r0, 3, 5, .ref sa_), (r0, 3, 6, .ref ea_), (r0, 3, 2, .ref tx_)]) [0, 1, 2, 3, 4, 5, 6] rfl rfl (M1 := [(ea_, 172, 40, ca 1, fe_9), (sa_, 171, 40, ca 1, fb_9), (tx_, 173, 1500, ca 1, ft)]) [0, 1, 2] rfl rfl (I1 := [([(3, 0), (3, 1), (3, 2), (3, 3), (3, 4), (3, 5), (3, 6), (3, 7), (3, 8), (3, 9), (3, 10), (3, 11), (3, 12), (3, 13), (3, 14), (3, 15), (3, 16)], jOw (dC, dI) G0 3 r0 s.heap), (jFdo, jDcc dC dI ca G0 (some r0) ph)]) [0, 1] rfl rfl).more hb_1005)
                    clear hh_94 ht_100 hvm_100 hz_100 hk_100 hS_100 hb_1001 hb_1002 hb_1003 hb_1004 hb_1005
                    obtain ⟨hr_101_0, hr_101_1⟩ := hr_101
                    refine lv_iadd hx hb dX1_part_186 ?_
                    refine lv_topi (fun z_102 ez_102 => ?_)
                    refine j7_iastL hx hb hK hh_100 hB hB101 1 rfl (by decide) (by decide) rfl rfl rfl hg_costs_92 (x := v3_88.toInt) (rfl) (by omega) (trivial) dX1_part_187 (fun H_103 locs_103 fs_104 hv_103 ho_103 hh_103 => ?_)
                    have hv_103 : jSo fs_104 (v3_88.toInt) = z_102.toInt := by unfold jSo; rw [hv_103]; try exact rfl
                    clear hh_100
                    obtain ⟨z_105, ez_105⟩ : ∃ y : Int32, y = v3_88 + 1 := ⟨_, rfl⟩
                    refine lv_iinc (v := z_105) (lv' := [(3, .int z_105), (0, .ref r0), (1, .ref r1), (2, .int v2_9)]) hx hb dX1_part_188 hl (k := 3) rfl (by rw [ez_105]; rfl) (by decide) rfl (fun ls hl => ?_)
                    have hz_105 : z_105.toInt = v3_88.toInt + 1 := by rw [ez_105]; exact jb_iadd2 (rfl) (by decide) (by omega)
                    refine lv_goto (tgt := 139) hx hb dX1_part_191 (by decide) ?_
                    exact L139 z_105 _ _ (hh_103.sub (L1 := [(r0, 3, 4, .int ws_9), (r0, 3, 3, .int pl), (r0, 3, 5, .ref sa_), (r0, 3, 6, .ref ea_), (r0, 3, 2, .ref tx_)]) [2, 3, 4, 5, 6] rfl (M1 := [(ea_, 172, 40, ca 1, fe_9), (sa_, 171, 40, ca 1, fb_9), (tx_, 173, 1500, ca 1, ft)]) [1, 2, 3] rfl (I1 := [([(3, 0), (3, 1), (3, 2), (3, 3), (3, 4), (3, 5), (3, 6), (3, 7), (3, 8), (3, 9), (3, 10), (3, 11), (3, 12), (3, 13), (3, 14), (3, 15), (3, 16)], jOw (dC, dI) G0 3 r0 s.heap), (jFdo, jDcc dC dI ca G0 (some r0) ph)]) [0, 1] rfl) (by first | omega | (refine ⟨?_, ?_⟩ <;> (first | omega | rfl | assumption | decide | exact Or.inl rfl | exact Or.inr rfl | (simp only; omega)))) (by omega) _ (lv_sub hl [1, 2, 3, 0] rfl)
                  · skip
                    have c_97' : z_96.toInt > 0 := jb_le_n (rfl) ((by decide)) c_97
                    refine lv_iconst (v := 1) hx hb dX1_part_162 (by decide) ?_
                    refine lv_goto (tgt := 186) hx hb dX1_part_163 (by decide) ?_
                    refine lv_iadd hx hb dX1_part_186 ?_
                    refine lv_topi (fun z_106 ez_106 => ?_)
                    refine j7_iastL hx hb hK hh_94 hB hB101 1 rfl (by decide) (by decide) rfl rfl rfl hg_costs_92 (x := v3_88.toInt) (rfl) (by omega) (trivial) dX1_part_187 (fun H_107 locs_107 fs_108 hv_107 ho_107 hh_107 => ?_)
                    have hv_107 : jSo fs_108 (v3_88.toInt) = z_106.toInt := by unfold jSo; rw [hv_107]; try exact rfl
                    clear hh_94
                    obtain ⟨z_109, ez_109⟩ : ∃ y : Int32, y = v3_88 + 1 := ⟨_, rfl⟩
                    refine lv_iinc (v := z_109) (lv' := [(3, .int z_109), (0, .ref r0), (1, .ref r1), (2, .int v2_9)]) hx hb dX1_part_188 hl (k := 3) rfl (by rw [ez_109]; rfl) (by decide) rfl (fun ls hl => ?_)
                    have hz_109 : z_109.toInt = v3_88.toInt + 1 := by rw [ez_109]; exact jb_iadd2 (rfl) (by decide) (by omega)
                    refine lv_goto (tgt := 139) hx hb dX1_part_191 (by decide) ?_
                    exact L139 z_109 _ _ (hh_107.sub (L1 := [(r0, 3, 4, .int ws_9), (r0, 3, 3, .int pl), (r0, 3, 5, .ref sa_), (r0, 3, 6, .ref ea_), (r0, 3, 2, .ref tx_)]) [2, 3, 4, 5, 6] rfl (M1 := [(ea_, 172, 40, ca 1, fe_9), (sa_, 171, 40, ca 1, fb_9), (tx_, 173, 1500, ca 1, ft)]) [1, 2, 3] rfl (I1 := [([(3, 0), (3, 1), (3, 2), (3, 3), (3, 4), (3, 5), (3, 6), (3, 7), (3, 8), (3, 9), (3, 10), (3, 11), (3, 12), (3, 13), (3, 14), (3, 15), (3, 16)], jOw (dC, dI) G0 3 r0 s.heap), (jFdo, jDcc dC dI ca G0 (some r0) ph)]) [0, 1] rfl) (by first | omega | (refine ⟨?_, ?_⟩ <;> (first | omega | rfl | assumption | decide | exact Or.inl rfl | exact Or.inr rfl | (simp only; omega)))) (by omega) _ (lv_sub hl [1, 2, 3, 0] rfl)
            exact L139 (ws_9.toInt - (0 : Int32).toInt : Int).toNat.succ 0 _ _ hh_9 (by first | omega | (refine ⟨?_, ?_⟩ <;> (first | omega | rfl | assumption | decide | exact Or.inl rfl | exact Or.inr rfl | (simp only; omega)))) (by omega) _ (lv_sub hl [1, 2, 3, 0] rfl)
          · skip
            have c_87' : v2_9.toInt < pl.toInt := jb_ge_n (rfl) (rfl) c_87
            refine lv_aload_n hx hb dX1_part_109 rfl (lv_at hl 0 rfl) ?_
            refine j7_read hx hb hown hK (C := RX1) (T := TX1) (N := 17) rfl hly_3_4 hlk_69 (hh_9.at 0 rfl) dX1_part_110 ?_
            refine lv_bipush (v := 40) hx hb dX1_part_113 (by decide) ?_
            refine lv_icmp_ne (tgt := 137) hx hb dX1_part_115 (by decide) (fun c_110 => ?_) (fun c_110 => ?_)
            · skip
              have c_110' : ws_9.toInt ≠ 40 := jb_ne (rfl) ((by decide)) c_110
              refine lv_iconst (v := 0) hx hb dX1_part_137 (by decide) ?_
              refine lv_istore_n (lv' := [(3, .int 0), (0, .ref r0), (1, .ref r1), (2, .int v2_9)]) hx hb dX1_part_138 rfl hl (by decide) rfl (fun ls hl => ?_)
              have L139 : ∀ (N : Nat) (v3_111 : Int32) (H_111 : Heap) (locs_111 : List Loc), jSt (dC, dI) B base G0 G0 EX1_partP s.heap 0 0 [(r0, 3, 4, .int ws_9), (r0, 3, 3, .int pl), (r0, 3, 5, .ref sa_), (r0, 3, 6, .ref ea_), (r0, 3, 2, .ref tx_)] [(ea_, 172, 40, ca 1, fe_9), (sa_, 171, 40, ca 1, fb_9), (tx_, 173, 1500, ca 1, ft)] [([(3, 0), (3, 1), (3, 2), (3, 3), (3, 4), (3, 5), (3, 6), (3, 7), (3, 8), (3, 9), (3, 10), (3, 11), (3, 12), (3, 13), (3, 14), (3, 15), (3, 16)], jOw (dC, dI) G0 3 r0 s.heap), (jFdo, jDcc dC dI ca G0 (some r0) ph)] H_111 locs_111 → (0 ≤ v3_111.toInt ∧ v3_111.toInt ≤ ws_9.toInt) → (ws_9.toInt - v3_111.toInt : Int) < N → ∀ ls : Array Slot, lv_has ls 5 [(0, .ref r0), (1, .ref r1), (2, .int v2_9), (3, .int v3_111)] → W p l e R s m ([.ref r0, .ref r1] : List Value).toArray below meth c H_111 locs_111 0 0 Q (F0 m 139 ls []) := by
                intro N
                induction N with
                | zero => intro v3_111 H_111 locs_111 hh_111  hi_111 hm; exact absurd hm (by omega)
                | succ N L139 =>
                  intro v3_111 H_111 locs_111 hh_111  hi_111 hm_111 ls hl
                  obtain ⟨hi_111_0, hi_111_1⟩ := hi_111
                  refine lv_iload_n hx hb dX1_part_139 rfl (lv_at hl 3 rfl) ?_
                  refine lv_aload_n hx hb dX1_part_140 rfl (lv_at hl 0 rfl) ?_
                  refine j7_read hx hb hown hK (C := RX1) (T := TX1) (N := 17) rfl hly_3_4 hlk_69 (hh_111.at 0 rfl) dX1_part_141 ?_
                  refine lv_icmp_ge (tgt := 194) hx hb dX1_part_144 (by decide) (fun c_112 => ?_) (fun c_112 => ?_)
                  · skip
                    have c_112' : v3_111.toInt ≥ ws_9.toInt := jb_ge (rfl) (rfl) c_112
                    rw [hQ]
                    exact W.vret hx hb hr (fun t ht hW => ⟨⟨(ws_9, fb_9, fe_9), rfl, by (try dsimp only); refine ⟨by omega, by omega, ?_, ?_⟩; exact jSn.ce hi_9_5 (by omega); (have h9 := hi_9_7.end (by omega) (by omega); omega), ⟨⟨⟨hh_111.rt (M1 := [(r0, 3, 4, .int ws_9)]) [0] rfl ht, by rw [ht]; exact hh_111.2.2.2.2.2.2.2.1.sub [1, 0] rfl⟩, by rw [ht]; exact hh_111.iv 0 rfl⟩, by rw [ht]; exact hh_111.2.2.2.2.2.2.2.2.sub (L1 := [(jFdo, jDcc dC dI ca G0 (some r0) ph)]) [1] rfl⟩⟩, by rw [ht]; try exact hh_111.1.1, fun q h9 hq => by rw [ht]; try exact hh_111.1.2.1 q h9 hq⟩) hh_111.1.2.2 dX1_part_194
                  · skip
                    have c_112' : v3_111.toInt < ws_9.toInt := jb_ge_n (rfl) (rfl) c_112
                    refine lv_aload_n hx hb dX1_part_147 rfl (lv_at hl 0 rfl) ?_
                    obtain ⟨v_113, hv_113, hh_114⟩ := hh_111.pin (C := RX1) (T := TX1) (N := 17) hB3 rfl (by decide) hg_r0 (i := 7) (by decide) rfl
                    clear hh_111
                    obtain ⟨costs_115, rfl, hg_costs_115⟩ := hv_113
                    refine j7_read hx hb hown hK (C := RX1) (T := TX1) (N := 17) rfl hly_3_7 hlk_24 (hh_114.at 0 rfl) dX1_part_148 ?_
                    refine lv_iload_n hx hb dX1_part_151 rfl (lv_at hl 3 rfl) ?_
                    refine lv_iconst (v := 3) hx hb dX1_part_152 (by decide) ?_
                    refine lv_aload_n hx hb dX1_part_153 rfl (lv_at hl 0 rfl) ?_
                    obtain ⟨v_116, hv_116, hh_117⟩ := hh_114.pin (C := RX1) (T := TX1) (N := 17) hB3 rfl (by decide) hg_r0 (i := 8) (by decide) rfl
                    clear hh_114
                    obtain ⟨early_118, rfl, hg_early_118⟩ := hv_116
                    refine j7_read hx hb hown hK (C := RX1) (T := TX1) (N := 17) rfl hly_3_8 hlk_27 (hh_117.at 0 rfl) dX1_part_154 ?_
                    refine lv_iload_n hx hb dX1_part_157 rfl (lv_at hl 3 rfl) ?_
                    refine j7_iald hx hb hK hh_117 hB101 1 rfl (by decide) hg_early_118 (x := v3_111.toInt) (rfl) (by omega) dX1_part_158 (fun z_119 (hz_119 : True) => ?_)
                    refine lv_if_le (tgt := 166) hx hb dX1_part_159 (by decide) (fun c_120 => ?_) (fun c_120 => ?_)
                    · skip
                      have c_120' : z_119.toInt ≤ 0 := jb_le (rfl) ((by decide)) c_120
                      refine lv_aload_n hx hb dX1_part_166 rfl (lv_at hl 1 rfl) ?_
                      refine lv_aload_n hx hb dX1_part_167 rfl (lv_at hl 0 rfl) ?_
                      refine j7_read hx hb hown hK (C := RX1) (T := TX1) (N := 17) rfl hly_3_2 hlk_15 (hh_117.at 6 rfl) dX1_part_168 ?_
                      refine lv_aload_n hx hb dX1_part_171 rfl (lv_at hl 0 rfl) ?_
                      refine j7_read hx hb hown hK (C := RX1) (T := TX1) (N := 17) rfl hly_3_5 hlk_18 (hh_117.at 4 rfl) dX1_part_172 ?_
                      refine lv_iload_n hx hb dX1_part_175 rfl (lv_at hl 3 rfl) ?_
                      refine j7_ialdM hx hb hK hh_117 hB171 1 rfl (by decide) hg_sa_ (x := v3_111.toInt) (rfl) (by omega) (j := 1) rfl dX1_part_176 (fun z_121 ez_121 (hz_121 : 0 ≤ z_121.toInt ∧ z_121.toInt ≤ 1500) => ?_)
                      have hqz_121 : z_121.toInt = jSo fb_9 (v3_111.toInt) := by unfold jSo; rw [ez_121]
                      refine lv_aload_n hx hb dX1_part_177 rfl (lv_at hl 0 rfl) ?_
                      refine j7_read hx hb hown hK (C := RX1) (T := TX1) (N := 17) rfl hly_3_6 hlk_21 (hh_117.at 5 rfl) dX1_part_178 ?_
                      refine lv_iload_n hx hb dX1_part_181 rfl (lv_at hl 3 rfl) ?_
                      refine j7_ialdM hx hb hK hh_117 hB172 1 rfl (by decide) hg_ea_ (x := v3_111.toInt) (rfl) (by omega) (j := 0) rfl dX1_part_182 (fun z_122 ez_122 (hz_122 : 0 ≤ z_122.toInt ∧ z_122.toInt ≤ 1500) => ?_)
                      have hqz_122 : z_122.toInt = jSo fe_9 (v3_111.toInt) := by unfold jSo; rw [ez_122]
                      refine va_calli (A0 := jA base) (H0 := s.heap) (va_runV (As := [.ref tx_, .int z_121, .int z_122]) (rest := [.int 3, .int v3_111, .ref costs_115]) ⟨hx, hb, hml, hown, hts⟩ (uX10_scanBt9 l dC dI ca base B hB hAp hB8 hB12 hB101 hB102 hB132 hB133 hB173 hB293 G0 H_111 r1 tx_ z_121 z_122 1500) (cwV 3 hts (jgV (jWr_36 _ (List.mem_of_getElem? (i := 19) rfl)) (jWr_36 _ (List.mem_of_getElem? (i := 20) rfl)) (jWr_36 _ (List.mem_of_getElem? (i := 21) rfl)) (jWr_4 _ (List.mem_of_getElem? (i := 14) rfl)) (jWr_36 _ (List.mem_of_getElem? (i := 22) rfl))) rfl rfl rfl (by decide +kernel) ⟨by rw [← hR]; exact Nat.le_of_ble_eq_true rfl, by rw [← hR]; exact Nat.le_of_ble_eq_true rfl⟩) ⟨fun a U g mk q => by obtain ⟨q0, q1, q2, qK, q10, q11, q12, q13⟩ := q; exact ⟨q0, q1, q2, jG.calling g mk a qK, q10, q11, q12, q13⟩, hh_117.recv (C := RX10) (T := TX10) (N := 11) hB12 rfl (by decide) hg_r1 hK, fun U hU hW => ⟨rfl, hU, hh_117.2.1, hG.step hW hU hh_117.1, hg_r1, hg_tx_, jP.nil, by first | omega | (refine ⟨?_, ?_⟩ <;> (first | omega | rfl | assumption | decide | exact Or.inl rfl | exact Or.inr rfl | (simp only; omega)))⟩⟩ rfl rfl hl.1 rfl (lv_room (Nat.le_of_ble_eq_true rfl)) dX1_part_183 ⟨Nat.zero_le _, Nat.zero_le _⟩) hh_117.1 (fun q _ h => h) (fun q h => h) (fun r_124 u_123 t_123 H_123 locs_123 ht_123 hvm_123 hr_124 hb_123 hz_123 hk_123 hS_123 => ?_)
                      rw [ht_123] at hb_123
                      obtain ⟨hb_1231, hb_1232, hb_1233, hb_1234, hb_1235⟩ := hb_123
                      have hh_123 : jSt (dC, dI) B base G0 G0 EX1_partP s.heap 0 0 [(r0, 3, 8, .ref early_118), (r0, 3, 7, .ref costs_115), (r0, 3, 4, .int ws_9), (r0, 3, 3, .int pl), (r0, 3, 5, .ref sa_), (r0, 3, 6, .ref ea_), (r0, 3, 2, .ref tx_)] [(ea_, 172, 40, ca 1, fe_9), (sa_, 171, 40, ca 1, fb_9), (tx_, 173, 1500, ca 1, ft)] [([(3, 0), (3, 1), (3, 2), (3, 3), (3, 4), (3, 5), (3, 6), (3, 7), (3, 8), (3, 9), (3, 10), (3, 11), (3, 12), (3, 13), (3, 14), (3, 15), (3, 16)], jOw (dC, dI) G0 3 r0 s.heap), (jFdo, jDcc dC dI ca G0 (some r0) ph)] H_123 locs_123 := ((hh_117.call hb_1231 hb_1232 hb_1233 hb_1234 hS_123 rfl (L1 := [(r0, 3, 8, .ref early_118), (r0, 3, 7, .ref costs_115), (r0, 3, 4, .int ws_9), (r0, 3, 3, .int pl), (r0, 3, 5, .ref sa_), (r0, 3, 6, .ref ea_), (r0, 3, 2, .ref tx_)]) [0, 1, 2, 3, 4, 5, 6] rfl rfl (M1 := [(ea_, 172, 40, ca 1, fe_9), (sa_, 171, 40, ca 1, fb_9), (tx_, 173, 1500, ca 1, ft)]) [0, 1, 2] rfl rfl (I1 := [([(3, 0), (3, 1), (3, 2), (3, 3), (3, 4), (3, 5), (3, 6), (3, 7), (3, 8), (3, 9), (3, 10), (3, 11), (3, 12), (3, 13), (3, 14), (3, 15), (3, 16)], jOw (dC, dI) G0 3 r0 s.heap), (jFdo, jDcc dC dI ca G0 (some r0) ph)]) [0, 1] rfl rfl).more hb_1235)
                      clear hh_117 ht_123 hvm_123 hz_123 hk_123 hS_123 hb_1231 hb_1232 hb_1233 hb_1234 hb_1235
                      obtain ⟨hr_124_0, hr_124_1⟩ := hr_124
                      refine lv_iadd hx hb dX1_part_186 ?_
                      refine lv_topi (fun z_125 ez_125 => ?_)
                      refine j7_iastL hx hb hK hh_123 hB hB101 1 rfl (by decide) (by decide) rfl rfl rfl hg_costs_115 (x := v3_111.toInt) (rfl) (by omega) (trivial) dX1_part_187 (fun H_126 locs_126 fs_127 hv_126 ho_126 hh_126 => ?_)
                      have hv_126 : jSo fs_127 (v3_111.toInt) = z_125.toInt := by unfold jSo; rw [hv_126]; try exact rfl
                      clear hh_123
                      obtain ⟨z_128, ez_128⟩ : ∃ y : Int32, y = v3_111 + 1 := ⟨_, rfl⟩
                      refine lv_iinc (v := z_128) (lv' := [(3, .int z_128), (0, .ref r0), (1, .ref r1), (2, .int v2_9)]) hx hb dX1_part_188 hl (k := 3) rfl (by rw [ez_128]; rfl) (by decide) rfl (fun ls hl => ?_)
                      have hz_128 : z_128.toInt = v3_111.toInt + 1 := by rw [ez_128]; exact jb_iadd2 (rfl) (by decide) (by omega)
                      refine lv_goto (tgt := 139) hx hb dX1_part_191 (by decide) ?_
                      exact L139 z_128 _ _ (hh_126.sub (L1 := [(r0, 3, 4, .int ws_9), (r0, 3, 3, .int pl), (r0, 3, 5, .ref sa_), (r0, 3, 6, .ref ea_), (r0, 3, 2, .ref tx_)]) [2, 3, 4, 5, 6] rfl (M1 := [(ea_, 172, 40, ca 1, fe_9), (sa_, 171, 40, ca 1, fb_9), (tx_, 173, 1500, ca 1, ft)]) [1, 2, 3] rfl (I1 := [([(3, 0), (3, 1), (3, 2), (3, 3), (3, 4), (3, 5), (3, 6), (3, 7), (3, 8), (3, 9), (3, 10), (3, 11), (3, 12), (3, 13), (3, 14), (3, 15), (3, 16)], jOw (dC, dI) G0 3 r0 s.heap), (jFdo, jDcc dC dI ca G0 (some r0) ph)]) [0, 1] rfl) (by first | omega | (refine ⟨?_, ?_⟩ <;> (first | omega | rfl | assumption | decide | exact Or.inl rfl | exact Or.inr rfl | (simp only; omega)))) (by omega) _ (lv_sub hl [1, 2, 3, 0] rfl)
                    · skip
                      have c_120' : z_119.toInt > 0 := jb_le_n (rfl) ((by decide)) c_120
                      refine lv_iconst (v := 1) hx hb dX1_part_162 (by decide) ?_
                      refine lv_goto (tgt := 186) hx hb dX1_part_163 (by decide) ?_
                      refine lv_iadd hx hb dX1_part_186 ?_
                      refine lv_topi (fun z_129 ez_129 => ?_)
                      refine j7_iastL hx hb hK hh_117 hB hB101 1 rfl (by decide) (by decide) rfl rfl rfl hg_costs_115 (x := v3_111.toInt) (rfl) (by omega) (trivial) dX1_part_187 (fun H_130 locs_130 fs_131 hv_130 ho_130 hh_130 => ?_)
                      have hv_130 : jSo fs_131 (v3_111.toInt) = z_129.toInt := by unfold jSo; rw [hv_130]; try exact rfl
                      clear hh_117
                      obtain ⟨z_132, ez_132⟩ : ∃ y : Int32, y = v3_111 + 1 := ⟨_, rfl⟩
                      refine lv_iinc (v := z_132) (lv' := [(3, .int z_132), (0, .ref r0), (1, .ref r1), (2, .int v2_9)]) hx hb dX1_part_188 hl (k := 3) rfl (by rw [ez_132]; rfl) (by decide) rfl (fun ls hl => ?_)
                      have hz_132 : z_132.toInt = v3_111.toInt + 1 := by rw [ez_132]; exact jb_iadd2 (rfl) (by decide) (by omega)
                      refine lv_goto (tgt := 139) hx hb dX1_part_191 (by decide) ?_
                      exact L139 z_132 _ _ (hh_130.sub (L1 := [(r0, 3, 4, .int ws_9), (r0, 3, 3, .int pl), (r0, 3, 5, .ref sa_), (r0, 3, 6, .ref ea_), (r0, 3, 2, .ref tx_)]) [2, 3, 4, 5, 6] rfl (M1 := [(ea_, 172, 40, ca 1, fe_9), (sa_, 171, 40, ca 1, fb_9), (tx_, 173, 1500, ca 1, ft)]) [1, 2, 3] rfl (I1 := [([(3, 0), (3, 1), (3, 2), (3, 3), (3, 4), (3, 5), (3, 6), (3, 7), (3, 8), (3, 9), (3, 10), (3, 11), (3, 12), (3, 13), (3, 14), (3, 15), (3, 16)], jOw (dC, dI) G0 3 r0 s.heap), (jFdo, jDcc dC dI ca G0 (some r0) ph)]) [0, 1] rfl) (by first | omega | (refine ⟨?_, ?_⟩ <;> (first | omega | rfl | assumption | decide | exact Or.inl rfl | exact Or.inr rfl | (simp only; omega)))) (by omega) _ (lv_sub hl [1, 2, 3, 0] rfl)
              exact L139 (ws_9.toInt - (0 : Int32).toInt : Int).toNat.succ 0 _ _ hh_9 (by first | omega | (refine ⟨?_, ?_⟩ <;> (first | omega | rfl | assumption | decide | exact Or.inl rfl | exact Or.inr rfl | (simp only; omega)))) (by omega) _ (lv_sub hl [1, 2, 3, 0] rfl)
            · skip
              have c_110' : ws_9.toInt = 40 := jb_ne_n (rfl) ((by decide)) c_110
              refine lv_aload_n hx hb dX1_part_118 rfl (lv_at hl 0 rfl) ?_
              refine j7_read hx hb hown hK (C := RX1) (T := TX1) (N := 17) rfl hly_3_6 hlk_21 (hh_9.at 3 rfl) dX1_part_119 ?_
              refine lv_bipush (v := 39) hx hb dX1_part_122 (by decide) ?_
              refine lv_aload_n hx hb dX1_part_124 rfl (lv_at hl 0 rfl) ?_
              refine j7_read hx hb hown hK (C := RX1) (T := TX1) (N := 17) rfl hly_3_3 hlk_42 (hh_9.at 1 rfl) dX1_part_125 ?_
              have hd_134 := hh_9.iv 1 rfl
              have hh_135 := hh_9.sub (L1 := [(r0, 3, 4, .int ws_9), (r0, 3, 3, .int pl), (r0, 3, 5, .ref sa_), (r0, 3, 6, .ref ea_), (r0, 3, 2, .ref tx_)]) [0, 1, 2, 3, 4] rfl (M1 := [(ea_, 172, 40, ca 1, fe_9), (sa_, 171, 40, ca 1, fb_9), (tx_, 173, 1500, ca 1, ft)]) [0, 1, 2] rfl (I1 := [([(3, 0), (3, 1), (3, 2), (3, 3), (3, 4), (3, 5), (3, 6), (3, 7), (3, 8), (3, 9), (3, 10), (3, 11), (3, 12), (3, 13), (3, 14), (3, 15), (3, 16)], jOw (dC, dI) G0 3 r0 s.heap)]) [0] rfl
              clear hh_9
              have hd_134f := hh_135.at 3 rfl
              refine j7_iastX hx hb hK hh_135 hB hB172 1 rfl (by decide) (by decide) rfl 0 rfl (M1 := [(sa_, 171, 40, ca 1, fb_9), (tx_, 173, 1500, ca 1, ft)]) [1, 2] rfl rfl rfl hg_ea_ (x := 39) ((by decide)) (by omega) (by first | omega | (refine ⟨?_, ?_⟩ <;> (first | omega | rfl | assumption | decide | exact Or.inl rfl | exact Or.inr rfl | (simp only; omega)))) dX1_part_128 (fun H_133 locs_133 fs_136 hv_133 ho_133 hr_133 hh_133 => ?_)
              have hv_133 : jSo fs_136 (39) = pl.toInt := by unfold jSo; rw [hv_133]; try exact rfl
              clear hh_135
              have hd_134n := jDcc.arr hd_134 hg_r0 hg_ea_ (Or.inr ⟨rfl, hd_134f⟩) hr_133
              have hh_137 := hh_133.addI (jDcc.ie hd_134n)
              clear hh_133
              clear hd_134 hd_134f hd_134n hr_133
              refine lv_aload_n hx hb dX1_part_129 rfl (lv_at hl 0 rfl) ?_
              obtain ⟨v_138, hv_138, hh_139⟩ := hh_137.pin (C := RX1) (T := TX1) (N := 17) hB3 rfl (by decide) hg_r0 (i := 8) (by decide) rfl
              clear hh_137
              obtain ⟨early_140, rfl, hg_early_140⟩ := hv_138
              refine j7_read hx hb hown hK (C := RX1) (T := TX1) (N := 17) rfl hly_3_8 hlk_27 (hh_139.at 0 rfl) dX1_part_130 ?_
              refine lv_bipush (v := 39) hx hb dX1_part_133 (by decide) ?_
              refine lv_iconst (v := 2) hx hb dX1_part_135 (by decide) ?_
              refine j7_iastL hx hb hK hh_139 hB hB101 1 rfl (by decide) (by decide) rfl rfl rfl hg_early_140 (x := 39) ((by decide)) (by omega) (trivial) dX1_part_136 (fun H_141 locs_141 fs_142 hv_141 ho_141 hh_141 => ?_)
              have hv_141 : jSo fs_142 (39) = 2 := by unfold jSo; rw [hv_141]; try exact (by decide)
              clear hh_139
              refine lv_iconst (v := 0) hx hb dX1_part_137 (by decide) ?_
              refine lv_istore_n (lv' := [(3, .int 0), (0, .ref r0), (1, .ref r1), (2, .int v2_9)]) hx hb dX1_part_138 rfl hl (by decide) rfl (fun ls hl => ?_)
              have L139 : ∀ (N : Nat) (v3_143 : Int32) (H_143 : Heap) (locs_143 : List Loc), jSt (dC, dI) B base G0 G0 EX1_partP s.heap 0 0 [(r0, 3, 8, .ref early_140), (r0, 3, 4, .int ws_9), (r0, 3, 3, .int pl), (r0, 3, 5, .ref sa_), (r0, 3, 6, .ref ea_), (r0, 3, 2, .ref tx_)] [(ea_, 172, 40, ca 1, fs_136), (sa_, 171, 40, ca 1, fb_9), (tx_, 173, 1500, ca 1, ft)] [(jFdo, jDcc dC dI ca G0 (some r0) ph), ([(3, 0), (3, 1), (3, 2), (3, 3), (3, 4), (3, 5), (3, 6), (3, 7), (3, 8), (3, 9), (3, 10), (3, 11), (3, 12), (3, 13), (3, 14), (3, 15), (3, 16)], jOw (dC, dI) G0 3 r0 s.heap)] H_143 locs_143 → (0 ≤ v3_143.toInt ∧ v3_143.toInt ≤ ws_9.toInt) → (ws_9.toInt - v3_143.toInt : Int) < N → ∀ ls : Array Slot, lv_has ls 5 [(0, .ref r0), (1, .ref r1), (2, .int v2_9), (3, .int v3_143)] → W p l e R s m ([.ref r0, .ref r1] : List Value).toArray below meth c H_143 locs_143 0 0 Q (F0 m 139 ls []) := by
                intro N
                induction N with
                | zero => intro v3_143 H_143 locs_143 hh_143  hi_143 hm; exact absurd hm (by omega)
                | succ N L139 =>
                  intro v3_143 H_143 locs_143 hh_143  hi_143 hm_143 ls hl
                  obtain ⟨hi_143_0, hi_143_1⟩ := hi_143
                  refine lv_iload_n hx hb dX1_part_139 rfl (lv_at hl 3 rfl) ?_
                  refine lv_aload_n hx hb dX1_part_140 rfl (lv_at hl 0 rfl) ?_
                  refine j7_read hx hb hown hK (C := RX1) (T := TX1) (N := 17) rfl hly_3_4 hlk_69 (hh_143.at 1 rfl) dX1_part_141 ?_
                  refine lv_icmp_ge (tgt := 194) hx hb dX1_part_144 (by decide) (fun c_144 => ?_) (fun c_144 => ?_)
                  · skip
                    have c_144' : v3_143.toInt ≥ ws_9.toInt := jb_ge (rfl) (rfl) c_144
                    rw [hQ]
                    exact W.vret hx hb hr (fun t ht hW => ⟨⟨(ws_9, fb_9, fs_136), rfl, by (try dsimp only); refine ⟨by omega, by omega, ?_, ?_⟩; exact jSn.last (jSn.ce hi_9_5 (by omega)) (by omega) hv_133 ho_133; (have h9 := hi_9_7.end (by omega) (by omega); omega), ⟨⟨⟨hh_143.rt (M1 := [(r0, 3, 4, .int ws_9)]) [1] rfl ht, by rw [ht]; exact hh_143.2.2.2.2.2.2.2.1.sub [1, 0] rfl⟩, by rw [ht]; exact hh_143.iv 1 rfl⟩, by rw [ht]; exact hh_143.2.2.2.2.2.2.2.2.sub (L1 := [(jFdo, jDcc dC dI ca G0 (some r0) ph)]) [0] rfl⟩⟩, by rw [ht]; try exact hh_143.1.1, fun q h9 hq => by rw [ht]; try exact hh_143.1.2.1 q h9 hq⟩) hh_143.1.2.2 dX1_part_194
                  · skip
                    have c_144' : v3_143.toInt < ws_9.toInt := jb_ge_n (rfl) (rfl) c_144
                    refine lv_aload_n hx hb dX1_part_147 rfl (lv_at hl 0 rfl) ?_
                    obtain ⟨v_145, hv_145, hh_146⟩ := hh_143.pin (C := RX1) (T := TX1) (N := 17) hB3 rfl (by decide) hg_r0 (i := 7) (by decide) rfl
                    clear hh_143
                    obtain ⟨costs_147, rfl, hg_costs_147⟩ := hv_145
                    refine j7_read hx hb hown hK (C := RX1) (T := TX1) (N := 17) rfl hly_3_7 hlk_24 (hh_146.at 0 rfl) dX1_part_148 ?_
                    refine lv_iload_n hx hb dX1_part_151 rfl (lv_at hl 3 rfl) ?_
                    refine lv_iconst (v := 3) hx hb dX1_part_152 (by decide) ?_
                    refine lv_aload_n hx hb dX1_part_153 rfl (lv_at hl 0 rfl) ?_
                    refine j7_read hx hb hown hK (C := RX1) (T := TX1) (N := 17) rfl hly_3_8 hlk_27 (hh_146.at 1 rfl) dX1_part_154 ?_
                    refine lv_iload_n hx hb dX1_part_157 rfl (lv_at hl 3 rfl) ?_
                    refine j7_iald hx hb hK hh_146 hB101 1 rfl (by decide) hg_early_140 (x := v3_143.toInt) (rfl) (by omega) dX1_part_158 (fun z_148 (hz_148 : True) => ?_)
                    refine lv_if_le (tgt := 166) hx hb dX1_part_159 (by decide) (fun c_149 => ?_) (fun c_149 => ?_)
                    · skip
                      have c_149' : z_148.toInt ≤ 0 := jb_le (rfl) ((by decide)) c_149
                      refine lv_aload_n hx hb dX1_part_166 rfl (lv_at hl 1 rfl) ?_
                      refine lv_aload_n hx hb dX1_part_167 rfl (lv_at hl 0 rfl) ?_
                      refine j7_read hx hb hown hK (C := RX1) (T := TX1) (N := 17) rfl hly_3_2 hlk_15 (hh_146.at 6 rfl) dX1_part_168 ?_
                      refine lv_aload_n hx hb dX1_part_171 rfl (lv_at hl 0 rfl) ?_
                      refine j7_read hx hb hown hK (C := RX1) (T := TX1) (N := 17) rfl hly_3_5 hlk_18 (hh_146.at 4 rfl) dX1_part_172 ?_
                      refine lv_iload_n hx hb dX1_part_175 rfl (lv_at hl 3 rfl) ?_
                      refine j7_ialdM hx hb hK hh_146 hB171 1 rfl (by decide) hg_sa_ (x := v3_143.toInt) (rfl) (by omega) (j := 1) rfl dX1_part_176 (fun z_150 ez_150 (hz_150 : 0 ≤ z_150.toInt ∧ z_150.toInt ≤ 1500) => ?_)
                      have hqz_150 : z_150.toInt = jSo fb_9 (v3_143.toInt) := by unfold jSo; rw [ez_150]
                      refine lv_aload_n hx hb dX1_part_177 rfl (lv_at hl 0 rfl) ?_
                      refine j7_read hx hb hown hK (C := RX1) (T := TX1) (N := 17) rfl hly_3_6 hlk_21 (hh_146.at 5 rfl) dX1_part_178 ?_
                      refine lv_iload_n hx hb dX1_part_181 rfl (lv_at hl 3 rfl) ?_
                      refine j7_ialdM hx hb hK hh_146 hB172 1 rfl (by decide) hg_ea_ (x := v3_143.toInt) (rfl) (by omega) (j := 0) rfl dX1_part_182 (fun z_151 ez_151 (hz_151 : 0 ≤ z_151.toInt ∧ z_151.toInt ≤ 1500) => ?_)
                      have hqz_151 : z_151.toInt = jSo fs_136 (v3_143.toInt) := by unfold jSo; rw [ez_151]
                      refine va_calli (A0 := jA base) (H0 := s.heap) (va_runV (As := [.ref tx_, .int z_150, .int z_151]) (rest := [.int 3, .int v3_143, .ref costs_147]) ⟨hx, hb, hml, hown, hts⟩ (uX10_scanBt9 l dC dI ca base B hB hAp hB8 hB12 hB101 hB102 hB132 hB133 hB173 hB293 G0 H_143 r1 tx_ z_150 z_151 1500) (cwV 3 hts (jgV (jWr_36 _ (List.mem_of_getElem? (i := 19) rfl)) (jWr_36 _ (List.mem_of_getElem? (i := 20) rfl)) (jWr_36 _ (List.mem_of_getElem? (i := 21) rfl)) (jWr_4 _ (List.mem_of_getElem? (i := 14) rfl)) (jWr_36 _ (List.mem_of_getElem? (i := 22) rfl))) rfl rfl rfl (by decide +kernel) ⟨by rw [← hR]; exact Nat.le_of_ble_eq_true rfl, by rw [← hR]; exact Nat.le_of_ble_eq_true rfl⟩) ⟨fun a U g mk q => by obtain ⟨q0, q1, q2, qK, q10, q11, q12, q13⟩ := q; exact ⟨q0, q1, q2, jG.calling g mk a qK, q10, q11, q12, q13⟩, hh_146.recv (C := RX10) (T := TX10) (N := 11) hB12 rfl (by decide) hg_r1 hK, fun U hU hW => ⟨rfl, hU, hh_146.2.1, hG.step hW hU hh_146.1, hg_r1, hg_tx_, jP.nil, by first | omega | (refine ⟨?_, ?_⟩ <;> (first | omega | rfl | assumption | decide | exact Or.inl rfl | exact Or.inr rfl | (simp only; omega)))⟩⟩ rfl rfl hl.1 rfl (lv_room (Nat.le_of_ble_eq_true rfl)) dX1_part_183 ⟨Nat.zero_le _, Nat.zero_le _⟩) hh_146.1 (fun q _ h => h) (fun q h => h) (fun r_153 u_152 t_152 H_152 locs_152 ht_152 hvm_152 hr_153 hb_152 hz_152 hk_152 hS_152 => ?_)
                      rw [ht_152] at hb_152
                      obtain ⟨hb_1521, hb_1522, hb_1523, hb_1524, hb_1525⟩ := hb_152
                      have hh_152 : jSt (dC, dI) B base G0 G0 EX1_partP s.heap 0 0 [(r0, 3, 7, .ref costs_147), (r0, 3, 8, .ref early_140), (r0, 3, 4, .int ws_9), (r0, 3, 3, .int pl), (r0, 3, 5, .ref sa_), (r0, 3, 6, .ref ea_), (r0, 3, 2, .ref tx_)] [(ea_, 172, 40, ca 1, fs_136), (sa_, 171, 40, ca 1, fb_9), (tx_, 173, 1500, ca 1, ft)] [(jFdo, jDcc dC dI ca G0 (some r0) ph), ([(3, 0), (3, 1), (3, 2), (3, 3), (3, 4), (3, 5), (3, 6), (3, 7), (3, 8), (3, 9), (3, 10), (3, 11), (3, 12), (3, 13), (3, 14), (3, 15), (3, 16)], jOw (dC, dI) G0 3 r0 s.heap)] H_152 locs_152 := ((hh_146.call hb_1521 hb_1522 hb_1523 hb_1524 hS_152 rfl (L1 := [(r0, 3, 7, .ref costs_147), (r0, 3, 8, .ref early_140), (r0, 3, 4, .int ws_9), (r0, 3, 3, .int pl), (r0, 3, 5, .ref sa_), (r0, 3, 6, .ref ea_), (r0, 3, 2, .ref tx_)]) [0, 1, 2, 3, 4, 5, 6] rfl rfl (M1 := [(ea_, 172, 40, ca 1, fs_136), (sa_, 171, 40, ca 1, fb_9), (tx_, 173, 1500, ca 1, ft)]) [0, 1, 2] rfl rfl (I1 := [(jFdo, jDcc dC dI ca G0 (some r0) ph), ([(3, 0), (3, 1), (3, 2), (3, 3), (3, 4), (3, 5), (3, 6), (3, 7), (3, 8), (3, 9), (3, 10), (3, 11), (3, 12), (3, 13), (3, 14), (3, 15), (3, 16)], jOw (dC, dI) G0 3 r0 s.heap)]) [0, 1] rfl rfl).more hb_1525)
                      clear hh_146 ht_152 hvm_152 hz_152 hk_152 hS_152 hb_1521 hb_1522 hb_1523 hb_1524 hb_1525
                      obtain ⟨hr_153_0, hr_153_1⟩ := hr_153
                      refine lv_iadd hx hb dX1_part_186 ?_
                      refine lv_topi (fun z_154 ez_154 => ?_)
                      refine j7_iastL hx hb hK hh_152 hB hB101 1 rfl (by decide) (by decide) rfl rfl rfl hg_costs_147 (x := v3_143.toInt) (rfl) (by omega) (trivial) dX1_part_187 (fun H_155 locs_155 fs_156 hv_155 ho_155 hh_155 => ?_)
                      have hv_155 : jSo fs_156 (v3_143.toInt) = z_154.toInt := by unfold jSo; rw [hv_155]; try exact rfl
                      clear hh_152
                      obtain ⟨z_157, ez_157⟩ : ∃ y : Int32, y = v3_143 + 1 := ⟨_, rfl⟩
                      refine lv_iinc (v := z_157) (lv' := [(3, .int z_157), (0, .ref r0), (1, .ref r1), (2, .int v2_9)]) hx hb dX1_part_188 hl (k := 3) rfl (by rw [ez_157]; rfl) (by decide) rfl (fun ls hl => ?_)
                      have hz_157 : z_157.toInt = v3_143.toInt + 1 := by rw [ez_157]; exact jb_iadd2 (rfl) (by decide) (by omega)
                      refine lv_goto (tgt := 139) hx hb dX1_part_191 (by decide) ?_
                      exact L139 z_157 _ _ (hh_155.sub (L1 := [(r0, 3, 8, .ref early_140), (r0, 3, 4, .int ws_9), (r0, 3, 3, .int pl), (r0, 3, 5, .ref sa_), (r0, 3, 6, .ref ea_), (r0, 3, 2, .ref tx_)]) [1, 2, 3, 4, 5, 6] rfl (M1 := [(ea_, 172, 40, ca 1, fs_136), (sa_, 171, 40, ca 1, fb_9), (tx_, 173, 1500, ca 1, ft)]) [1, 2, 3] rfl (I1 := [(jFdo, jDcc dC dI ca G0 (some r0) ph), ([(3, 0), (3, 1), (3, 2), (3, 3), (3, 4), (3, 5), (3, 6), (3, 7), (3, 8), (3, 9), (3, 10), (3, 11), (3, 12), (3, 13), (3, 14), (3, 15), (3, 16)], jOw (dC, dI) G0 3 r0 s.heap)]) [0, 1] rfl) (by first | omega | (refine ⟨?_, ?_⟩ <;> (first | omega | rfl | assumption | decide | exact Or.inl rfl | exact Or.inr rfl | (simp only; omega)))) (by omega) _ (lv_sub hl [1, 2, 3, 0] rfl)
                    · skip
                      have c_149' : z_148.toInt > 0 := jb_le_n (rfl) ((by decide)) c_149
                      refine lv_iconst (v := 1) hx hb dX1_part_162 (by decide) ?_
                      refine lv_goto (tgt := 186) hx hb dX1_part_163 (by decide) ?_
                      refine lv_iadd hx hb dX1_part_186 ?_
                      refine lv_topi (fun z_158 ez_158 => ?_)
                      refine j7_iastL hx hb hK hh_146 hB hB101 1 rfl (by decide) (by decide) rfl rfl rfl hg_costs_147 (x := v3_143.toInt) (rfl) (by omega) (trivial) dX1_part_187 (fun H_159 locs_159 fs_160 hv_159 ho_159 hh_159 => ?_)
                      have hv_159 : jSo fs_160 (v3_143.toInt) = z_158.toInt := by unfold jSo; rw [hv_159]; try exact rfl
                      clear hh_146
                      obtain ⟨z_161, ez_161⟩ : ∃ y : Int32, y = v3_143 + 1 := ⟨_, rfl⟩
                      refine lv_iinc (v := z_161) (lv' := [(3, .int z_161), (0, .ref r0), (1, .ref r1), (2, .int v2_9)]) hx hb dX1_part_188 hl (k := 3) rfl (by rw [ez_161]; rfl) (by decide) rfl (fun ls hl => ?_)
                      have hz_161 : z_161.toInt = v3_143.toInt + 1 := by rw [ez_161]; exact jb_iadd2 (rfl) (by decide) (by omega)
                      refine lv_goto (tgt := 139) hx hb dX1_part_191 (by decide) ?_
                      exact L139 z_161 _ _ (hh_159.sub (L1 := [(r0, 3, 8, .ref early_140), (r0, 3, 4, .int ws_9), (r0, 3, 3, .int pl), (r0, 3, 5, .ref sa_), (r0, 3, 6, .ref ea_), (r0, 3, 2, .ref tx_)]) [1, 2, 3, 4, 5, 6] rfl (M1 := [(ea_, 172, 40, ca 1, fs_136), (sa_, 171, 40, ca 1, fb_9), (tx_, 173, 1500, ca 1, ft)]) [1, 2, 3] rfl (I1 := [(jFdo, jDcc dC dI ca G0 (some r0) ph), ([(3, 0), (3, 1), (3, 2), (3, 3), (3, 4), (3, 5), (3, 6), (3, 7), (3, 8), (3, 9), (3, 10), (3, 11), (3, 12), (3, 13), (3, 14), (3, 15), (3, 16)], jOw (dC, dI) G0 3 r0 s.heap)]) [0, 1] rfl) (by first | omega | (refine ⟨?_, ?_⟩ <;> (first | omega | rfl | assumption | decide | exact Or.inl rfl | exact Or.inr rfl | (simp only; omega)))) (by omega) _ (lv_sub hl [1, 2, 3, 0] rfl)
              exact L139 (ws_9.toInt - (0 : Int32).toInt : Int).toNat.succ 0 _ _ (hh_141.sub (L1 := [(r0, 3, 8, .ref early_140), (r0, 3, 4, .int ws_9), (r0, 3, 3, .int pl), (r0, 3, 5, .ref sa_), (r0, 3, 6, .ref ea_), (r0, 3, 2, .ref tx_)]) [0, 1, 2, 3, 4, 5] rfl (M1 := [(ea_, 172, 40, ca 1, fs_136), (sa_, 171, 40, ca 1, fb_9), (tx_, 173, 1500, ca 1, ft)]) [1, 2, 3] rfl (I1 := [(jFdo, jDcc dC dI ca G0 (some r0) ph), ([(3, 0), (3, 1), (3, 2), (3, 3), (3, 4), (3, 5), (3, 6), (3, 7), (3, 8), (3, 9), (3, 10), (3, 11), (3, 12), (3, 13), (3, 14), (3, 15), (3, 16)], jOw (dC, dI) G0 3 r0 s.heap)]) [0, 1] rfl) (by first | omega | (refine ⟨?_, ?_⟩ <;> (first | omega | rfl | assumption | decide | exact Or.inl rfl | exact Or.inr rfl | (simp only; omega)))) (by omega) _ (lv_sub hl [1, 2, 3, 0] rfl)
        · skip
          have c_86' : v2_9.toInt < pl.toInt := jb_ge_n (rfl) (rfl) c_86
          refine lv_aload_n hx hb dX1_part_27 rfl (lv_at hl 0 rfl) ?_
          refine lv_iload_n hx hb dX1_part_28 rfl (lv_at hl 2 rfl) ?_
          refine va_calli (A0 := jA base) (H0 := s.heap) (va_runV (As := [.int v2_9]) (rest := []) ⟨hx, hb, hml, hown, hts⟩ (uX1_sentenceEndP l dC dI ca base B hB hAp hB3 hB101 hB173 G0 H_9 r0 v2_9 n0 pl tx_ ft) (cwV 1 hts (jgV (jWr_36 _ (List.mem_of_getElem? (i := 15) rfl)) (jWr_36 _ (List.mem_of_getElem? (i := 16) rfl)) (jWr_36 _ (List.mem_of_getElem? (i := 17) rfl)) (jWr_2 _ (List.mem_of_getElem? (i := 21) rfl)) (jWr_36 _ (List.mem_of_getElem? (i := 18) rfl))) rfl rfl rfl (by decide +kernel) ⟨by rw [← hR]; exact Nat.le_of_ble_eq_true rfl, by rw [← hR]; exact Nat.le_of_ble_eq_true rfl⟩) ⟨fun a U g mk q => by obtain ⟨q0, q1, q2, qK, q10, q11, q12, q13, q14⟩ := q; exact ⟨q0, q1, q2, jG.calling g mk a qK, q10, q11, q12, q13, q14⟩, hh_9.recv (C := RX1) (T := TX1) (N := 17) hB3 rfl (by decide) hg_r0 hK, fun U hU hW => ⟨rfl, hU, hh_9.2.1, hG.step hW hU hh_9.1, hg_r0, hg_tx_, (hh_9.2.2.1.sub (L1 := [(r0, 3, 3, .int pl), (r0, 3, 2, .ref tx_)]) [1, 4] rfl), (hh_9.2.2.2.2.2.2.2.1.sub (L1 := [(tx_, 173, 1500, ca 1, ft)]) [2] rfl), by first | omega | (refine ⟨?_, ?_, ?_⟩ <;> (first | omega | rfl | assumption | decide | exact Or.inl rfl | exact Or.inr rfl | (simp only; omega)))⟩⟩ rfl rfl hl.1 rfl (lv_room (Nat.le_of_ble_eq_true rfl)) dX1_part_29 ⟨Nat.zero_le _, Nat.zero_le _⟩) hh_9.1 (fun q _ h => h) (fun q h => h) (fun r_163 u_162 t_162 H_162 locs_162 ht_162 hvm_162 hr_163 hb_162 hz_162 hk_162 hS_162 => ?_)
          rw [ht_162] at hb_162
          obtain ⟨hb_1621, hb_1622, hb_1623, hb_1624, hb_1625⟩ := hb_162
          have hh_162 : jSt (dC, dI) B base G0 G0 EX1_partP s.heap 0 0 [(r0, 3, 4, .int ws_9), (r0, 3, 3, .int pl), (r0, 3, 5, .ref sa_), (r0, 3, 6, .ref ea_), (r0, 3, 2, .ref tx_)] [(ea_, 172, 40, ca 1, fe_9), (sa_, 171, 40, ca 1, fb_9), (tx_, 173, 1500, ca 1, ft)] [([(3, 0), (3, 1), (3, 2), (3, 3), (3, 4), (3, 5), (3, 6), (3, 7), (3, 8), (3, 9), (3, 10), (3, 11), (3, 12), (3, 13), (3, 14), (3, 15), (3, 16)], jOw (dC, dI) G0 3 r0 s.heap), (jFdo, jDcc dC dI ca G0 (some r0) ph)] H_162 locs_162 := ((hh_9.call hb_1621 hb_1622 hb_1623 hb_1624 hS_162 rfl (L1 := [(r0, 3, 4, .int ws_9), (r0, 3, 3, .int pl), (r0, 3, 5, .ref sa_), (r0, 3, 6, .ref ea_), (r0, 3, 2, .ref tx_)]) [0, 1, 2, 3, 4] rfl rfl (M1 := [(ea_, 172, 40, ca 1, fe_9), (sa_, 171, 40, ca 1, fb_9), (tx_, 173, 1500, ca 1, ft)]) [0, 1, 2] rfl rfl (I1 := [([(3, 0), (3, 1), (3, 2), (3, 3), (3, 4), (3, 5), (3, 6), (3, 7), (3, 8), (3, 9), (3, 10), (3, 11), (3, 12), (3, 13), (3, 14), (3, 15), (3, 16)], jOw (dC, dI) G0 3 r0 s.heap), (jFdo, jDcc dC dI ca G0 (some r0) ph)]) [0, 1] rfl rfl).more hb_1625)
          clear hh_9 ht_162 hvm_162 hz_162 hk_162 hS_162 hb_1621 hb_1622 hb_1623 hb_1624 hb_1625
          obtain ⟨hr_163_0, hr_163_1⟩ := hr_163
          refine lv_istore (lv' := [(4, .int r_163), (0, .ref r0), (1, .ref r1), (2, .int v2_9), (3, .int v3_9)]) hx hb dX1_part_32 hl (by decide) rfl (fun ls hl => ?_)
          refine lv_aload_n hx hb dX1_part_34 rfl (lv_at hl 1 rfl) ?_
          refine j7_read hx hb hown hK (C := RX1) (T := TX1) (N := 17) rfl hly_3_5 hlk_18 (hh_162.at 2 rfl) dX1_part_35 ?_
          refine lv_iload_n hx hb dX1_part_38 rfl (lv_at hl 4 rfl) ?_
          refine lv_iload_n hx hb dX1_part_39 rfl (lv_at hl 3 rfl) ?_
          have hd_165 := hh_162.iv 1 rfl
          have hh_166 := hh_162.sub (L1 := [(r0, 3, 4, .int ws_9), (r0, 3, 3, .int pl), (r0, 3, 5, .ref sa_), (r0, 3, 6, .ref ea_), (r0, 3, 2, .ref tx_)]) [0, 1, 2, 3, 4] rfl (M1 := [(ea_, 172, 40, ca 1, fe_9), (sa_, 171, 40, ca 1, fb_9), (tx_, 173, 1500, ca 1, ft)]) [0, 1, 2] rfl (I1 := [([(3, 0), (3, 1), (3, 2), (3, 3), (3, 4), (3, 5), (3, 6), (3, 7), (3, 8), (3, 9), (3, 10), (3, 11), (3, 12), (3, 13), (3, 14), (3, 15), (3, 16)], jOw (dC, dI) G0 3 r0 s.heap)]) [0] rfl
          clear hh_162
          have hd_165f := hh_166.at 2 rfl
          refine j7_iastX hx hb hK hh_166 hB hB171 1 rfl (by decide) (by decide) rfl 1 rfl (M1 := [(ea_, 172, 40, ca 1, fe_9), (tx_, 173, 1500, ca 1, ft)]) [0, 2] rfl rfl rfl hg_sa_ (x := v3_9.toInt) (rfl) (by omega) (by first | omega | (refine ⟨?_, ?_⟩ <;> (first | omega | rfl | assumption | decide | exact Or.inl rfl | exact Or.inr rfl | (simp only; omega)))) dX1_part_40 (fun H_164 locs_164 fs_167 hv_164 ho_164 hr_164 hh_164 => ?_)
          have hv_164 : jSo fs_167 (v3_9.toInt) = v2_9.toInt := by unfold jSo; rw [hv_164]; try exact rfl
          clear hh_166
          have hd_165n := jDcc.arr hd_165 hg_r0 hg_sa_ (Or.inl ⟨rfl, hd_165f⟩) hr_164
          have hh_168 := hh_164.addI (jDcc.ie hd_165n)
          clear hh_164
          clear hd_165 hd_165f hd_165n hr_164
          refine lv_aload_n hx hb dX1_part_41 rfl (lv_at hl 1 rfl) ?_
          refine j7_read hx hb hown hK (C := RX1) (T := TX1) (N := 17) rfl hly_3_6 hlk_21 (hh_168.at 3 rfl) dX1_part_42 ?_
          refine lv_iload_n hx hb dX1_part_45 rfl (lv_at hl 4 rfl) ?_
          refine lv_iload hx hb dX1_part_46 (lv_at hl 0 rfl) ?_
          refine lv_if_ge (tgt := 58) hx hb dX1_part_48 (by decide) (fun c_169 => ?_) (fun c_169 => ?_)
          · skip
            have c_169' : r_163.toInt ≥ 0 := jb_ge (rfl) ((by decide)) c_169
            first | (have hr_163_1q := hr_163_1.resolve_left (by omega); clear hr_163_1) | (have hr_163_1q := hr_163_1.resolve_right (by omega); clear hr_163_1) | skip
            refine lv_iload hx hb dX1_part_58 (lv_at hl 0 rfl) ?_
            have hd_171 := hh_168.iv 0 rfl
            have hh_172 := hh_168.sub (L1 := [(r0, 3, 4, .int ws_9), (r0, 3, 3, .int pl), (r0, 3, 5, .ref sa_), (r0, 3, 6, .ref ea_), (r0, 3, 2, .ref tx_)]) [0, 1, 2, 3, 4] rfl (M1 := [(sa_, 171, 40, ca 1, fs_167), (ea_, 172, 40, ca 1, fe_9), (tx_, 173, 1500, ca 1, ft)]) [0, 1, 2] rfl (I1 := [([(3, 0), (3, 1), (3, 2), (3, 3), (3, 4), (3, 5), (3, 6), (3, 7), (3, 8), (3, 9), (3, 10), (3, 11), (3, 12), (3, 13), (3, 14), (3, 15), (3, 16)], jOw (dC, dI) G0 3 r0 s.heap)]) [1] rfl
            clear hh_168
            have hd_171f := hh_172.at 3 rfl
            refine j7_iastX hx hb hK hh_172 hB hB172 1 rfl (by decide) (by decide) rfl 1 rfl (M1 := [(sa_, 171, 40, ca 1, fs_167), (tx_, 173, 1500, ca 1, ft)]) [0, 2] rfl rfl rfl hg_ea_ (x := v3_9.toInt) (rfl) (by omega) (by first | omega | (refine ⟨?_, ?_⟩ <;> (first | omega | rfl | assumption | decide | exact Or.inl rfl | exact Or.inr rfl | (simp only; omega)))) dX1_part_60 (fun H_170 locs_170 fs_173 hv_170 ho_170 hr_170 hh_170 => ?_)
            have hv_170 : jSo fs_173 (v3_9.toInt) = r_163.toInt := by unfold jSo; rw [hv_170]; try exact rfl
            clear hh_172
            have hd_171n := jDcc.arr hd_171 hg_r0 hg_ea_ (Or.inr ⟨rfl, hd_171f⟩) hr_170
            have hh_174 := hh_170.addI (jDcc.ie hd_171n)
            clear hh_170
            clear hd_171 hd_171f hd_171n hr_170
            refine lv_aload_n hx hb dX1_part_61 rfl (lv_at hl 1 rfl) ?_
            obtain ⟨v_175, hv_175, hh_176⟩ := hh_174.pin (C := RX1) (T := TX1) (N := 17) hB3 rfl (by decide) hg_r0 (i := 8) (by decide) rfl
            clear hh_174
            obtain ⟨early_177, rfl, hg_early_177⟩ := hv_175
            refine j7_read hx hb hown hK (C := RX1) (T := TX1) (N := 17) rfl hly_3_8 hlk_27 (hh_176.at 0 rfl) dX1_part_62 ?_
            refine lv_iload_n hx hb dX1_part_65 rfl (lv_at hl 4 rfl) ?_
            refine lv_iload hx hb dX1_part_66 (lv_at hl 0 rfl) ?_
            refine lv_if_ge (tgt := 75) hx hb dX1_part_68 (by decide) (fun c_178 => ?_) (fun c_178 => ?_)
            · skip
              have c_178' : r_163.toInt ≥ 0 := jb_ge (rfl) ((by decide)) c_178
              first | (have hr_163_1q := hr_163_1.resolve_left (by omega); clear hr_163_1) | (have hr_163_1q := hr_163_1.resolve_right (by omega); clear hr_163_1) | skip
              refine lv_iconst (v := 0) hx hb dX1_part_75 (by decide) ?_
              refine j7_iastL hx hb hK hh_176 hB hB101 1 rfl (by decide) (by decide) rfl rfl rfl hg_early_177 (x := v3_9.toInt) (rfl) (by omega) (trivial) dX1_part_76 (fun H_179 locs_179 fs_180 hv_179 ho_179 hh_179 => ?_)
              have hv_179 : jSo fs_180 (v3_9.toInt) = 0 := by unfold jSo; rw [hv_179]; try exact (by decide)
              clear hh_176
              refine lv_aload_n hx hb dX1_part_77 rfl (lv_at hl 1 rfl) ?_
              refine lv_iload_n hx hb dX1_part_78 rfl (lv_at hl 4 rfl) ?_
              refine lv_iconst (v := 1) hx hb dX1_part_79 (by decide) ?_
              refine lv_iadd hx hb dX1_part_80 ?_
              refine lv_topi (fun z_181 ez_181 => ?_)
              have hz_181 : z_181.toInt = v3_9.toInt + 1 := by rw [ez_181]; exact jb_iadd2 (rfl) ((by decide)) (by omega)
              have hd_183 := hh_179.iv 0 rfl
              have hd_1835 := hh_179.at 3 rfl
              have hd_1836 := hh_179.at 4 rfl
              have hd_183o := hh_179.iv 1 rfl
              have hh_184 := hh_179.sub (L1 := [(r0, 3, 8, .ref early_177), (r0, 3, 4, .int ws_9), (r0, 3, 3, .int pl), (r0, 3, 5, .ref sa_), (r0, 3, 6, .ref ea_), (r0, 3, 2, .ref tx_)]) [0, 1, 2, 3, 4, 5] rfl (M1 := [(early_177, 101, 40, ca 1, fs_180), (ea_, 172, 40, ca 1, fs_173), (sa_, 171, 40, ca 1, fs_167), (tx_, 173, 1500, ca 1, ft)]) [0, 1, 2, 3] rfl (I1 := []) [] rfl
              clear hh_179
              refine j7_putX hx hb hown hK hh_184 hB hAp hB3 (C := RX1) (T := TX1) (N := 17) rfl (by decide) hg_r0 (i := 4) (by decide) hly_3_4 rfl hlk_69 rfl (ty := .int) (v := .int z_181) (by decide +kernel) rfl rfl (⟨_, rfl, by omega, by omega⟩) rfl (L1 := [(r0, 3, 8, .ref early_177), (r0, 3, 3, .int pl), (r0, 3, 5, .ref sa_), (r0, 3, 6, .ref ea_), (r0, 3, 2, .ref tx_)]) [0, 2, 3, 4, 5] rfl rfl rfl dX1_part_81 (fun H_182 locs_182 hr_182 hh_182 => ?_)
              clear hh_184
              have hd_183n := jDcc.fld hd_183 hg_r0 hr_182 hd_1835 hd_1836 (hh_182.at 3 rfl) (hh_182.at 4 rfl)
              have hd_183on := jOw.put hd_183o hr_182
              have hh_185 := hh_182.addI (jDcc.ie hd_183n)
              clear hh_182
              have hh_186 := hh_185.addI (jOw.ie (dC := dC) (dI := dI) (G0 := G0) (k := 3) (r := r0) (H0 := s.heap) (F := [(3, 0), (3, 1), (3, 2), (3, 3), (3, 4), (3, 5), (3, 6), (3, 7), (3, 8), (3, 9), (3, 10), (3, 11), (3, 12), (3, 13), (3, 14), (3, 15), (3, 16)]) (C := RX1) (T := TX1) (N := 17) rfl (by decide) hh_185.2.2.2.2.1 (hd_183on))
              clear hh_185
              clear hd_183 hd_183n hd_1835 hd_1836 hr_182 hd_183o hd_183on
              refine lv_aload_n hx hb dX1_part_84 rfl (lv_at hl 1 rfl) ?_
              refine lv_aload_n hx hb dX1_part_85 rfl (lv_at hl 1 rfl) ?_
              refine j7_read hx hb hown hK (C := RX1) (T := TX1) (N := 17) rfl hly_3_6 hlk_21 (hh_186.at 4 rfl) dX1_part_86 ?_
              refine lv_iload_n hx hb dX1_part_89 rfl (lv_at hl 4 rfl) ?_
              refine j7_ialdM hx hb hK hh_186 hB172 1 rfl (by decide) hg_ea_ (x := v3_9.toInt) (rfl) (by omega) (j := 1) rfl dX1_part_90 (fun z_187 ez_187 (hz_187 : 0 ≤ z_187.toInt ∧ z_187.toInt ≤ 1500) => ?_)
              have hqz_187 : z_187.toInt = jSo fs_173 (v3_9.toInt) := by unfold jSo; rw [ez_187]
              refine va_calli (A0 := jA base) (H0 := s.heap) (va_runV (As := [.int z_187]) (rest := []) ⟨hx, hb, hml, hown, hts⟩ (uX1_sentenceBeginP l dC dI ca base B hB hAp hB3 hB101 hB173 G0 H_182 r0 z_187 n0 pl tx_ ft) (cwV 1 hts (jgV (jWr_36 _ (List.mem_of_getElem? (i := 6) rfl)) (jWr_36 _ (List.mem_of_getElem? (i := 7) rfl)) (jWr_36 _ (List.mem_of_getElem? (i := 8) rfl)) (jWr_2 _ (List.mem_of_getElem? (i := 21) rfl)) (jWr_36 _ (List.mem_of_getElem? (i := 9) rfl))) rfl rfl rfl (by decide +kernel) ⟨by rw [← hR]; exact Nat.le_of_ble_eq_true rfl, by rw [← hR]; exact Nat.le_of_ble_eq_true rfl⟩) ⟨fun a U g mk q => by obtain ⟨q0, q1, q2, qK, q10, q11, q12, q13, q14⟩ := q; exact ⟨q0, q1, q2, jG.calling g mk a qK, q10, q11, q12, q13, q14⟩, hh_186.recv (C := RX1) (T := TX1) (N := 17) hB3 rfl (by decide) hg_r0 hK, fun U hU hW => ⟨rfl, hU, hh_186.2.1, hG.step hW hU hh_186.1, hg_r0, hg_tx_, (hh_186.2.2.1.sub (L1 := [(r0, 3, 3, .int pl), (r0, 3, 2, .ref tx_)]) [2, 5] rfl), (hh_186.2.2.2.2.2.2.2.1.sub (L1 := [(tx_, 173, 1500, ca 1, ft)]) [3] rfl), by first | omega | (refine ⟨?_, ?_, ?_⟩ <;> (first | omega | rfl | assumption | decide | exact Or.inl rfl | exact Or.inr rfl | (simp only; omega)))⟩⟩ rfl rfl hl.1 rfl (lv_room (Nat.le_of_ble_eq_true rfl)) dX1_part_91 ⟨Nat.zero_le _, Nat.zero_le _⟩) hh_186.1 (fun q _ h => h) (fun q h => h) (fun r_189 u_188 t_188 H_188 locs_188 ht_188 hvm_188 hr_189 hb_188 hz_188 hk_188 hS_188 => ?_)
              rw [ht_188] at hb_188
              obtain ⟨hb_1881, hb_1882, hb_1883, hb_1884, hb_1885⟩ := hb_188
              have hh_188 : jSt (dC, dI) B base G0 G0 EX1_partP s.heap 0 0 [(r0, 3, 4, .int z_181), (r0, 3, 8, .ref early_177), (r0, 3, 3, .int pl), (r0, 3, 5, .ref sa_), (r0, 3, 6, .ref ea_), (r0, 3, 2, .ref tx_)] [(early_177, 101, 40, ca 1, fs_180), (ea_, 172, 40, ca 1, fs_173), (sa_, 171, 40, ca 1, fs_167), (tx_, 173, 1500, ca 1, ft)] [([(3, 0), (3, 1), (3, 2), (3, 3), (3, 4), (3, 5), (3, 6), (3, 7), (3, 8), (3, 9), (3, 10), (3, 11), (3, 12), (3, 13), (3, 14), (3, 15), (3, 16)], jOw (dC, dI) G0 3 r0 s.heap), (jFdo, jDcc dC dI ca G0 (some r0) ph)] H_188 locs_188 := ((hh_186.call hb_1881 hb_1882 hb_1883 hb_1884 hS_188 rfl (L1 := [(r0, 3, 4, .int z_181), (r0, 3, 8, .ref early_177), (r0, 3, 3, .int pl), (r0, 3, 5, .ref sa_), (r0, 3, 6, .ref ea_), (r0, 3, 2, .ref tx_)]) [0, 1, 2, 3, 4, 5] rfl rfl (M1 := [(early_177, 101, 40, ca 1, fs_180), (ea_, 172, 40, ca 1, fs_173), (sa_, 171, 40, ca 1, fs_167), (tx_, 173, 1500, ca 1, ft)]) [0, 1, 2, 3] rfl rfl (I1 := [([(3, 0), (3, 1), (3, 2), (3, 3), (3, 4), (3, 5), (3, 6), (3, 7), (3, 8), (3, 9), (3, 10), (3, 11), (3, 12), (3, 13), (3, 14), (3, 15), (3, 16)], jOw (dC, dI) G0 3 r0 s.heap), (jFdo, jDcc dC dI ca G0 (some r0) ph)]) [0, 1] rfl rfl).more hb_1885)
              clear hh_186 ht_188 hvm_188 hz_188 hk_188 hS_188 hb_1881 hb_1882 hb_1883 hb_1884 hb_1885
              obtain ⟨hr_189_0, hr_189_1, hr_189_2⟩ := hr_189
              refine lv_istore_n (lv' := [(2, .int r_189), (4, .int r_163), (0, .ref r0), (1, .ref r1), (3, .int v3_9)]) hx hb dX1_part_94 rfl hl (by decide) rfl (fun ls hl => ?_)
              obtain ⟨z_190, ez_190⟩ : ∃ y : Int32, y = v3_9 + 1 := ⟨_, rfl⟩
              refine lv_iinc (v := z_190) (lv' := [(3, .int z_190), (2, .int r_189), (4, .int r_163), (0, .ref r0), (1, .ref r1)]) hx hb dX1_part_95 hl (k := 4) rfl (by rw [ez_190]; rfl) (by decide) rfl (fun ls hl => ?_)
              have hz_190 : z_190.toInt = v3_9.toInt + 1 := by rw [ez_190]; exact jb_iadd2 (rfl) (by decide) (by omega)
              refine lv_goto (tgt := 13) hx hb dX1_part_98 (by decide) ?_
              exact L13 r_189 z_190 z_181 fs_167 fs_173 (kf - 1) _ _ (hh_188.sub (L1 := [(r0, 3, 4, .int z_181), (r0, 3, 3, .int pl), (r0, 3, 5, .ref sa_), (r0, 3, 6, .ref ea_), (r0, 3, 2, .ref tx_)]) [0, 2, 3, 4, 5] rfl (M1 := [(ea_, 172, 40, ca 1, fs_173), (sa_, 171, 40, ca 1, fs_167), (tx_, 173, 1500, ca 1, ft)]) [1, 2, 3] rfl (I1 := [([(3, 0), (3, 1), (3, 2), (3, 3), (3, 4), (3, 5), (3, 6), (3, 7), (3, 8), (3, 9), (3, 10), (3, 11), (3, 12), (3, 13), (3, 14), (3, 15), (3, 16)], jOw (dC, dI) G0 3 r0 s.heap), (jFdo, jDcc dC dI ca G0 (some r0) ph)]) [0, 1] rfl) (by refine ⟨by omega, by omega, by omega, by omega, by omega, jSn.put hi_9_5 hi_9_6 hv_164 ho_164 hv_170 ho_170 (by omega) (by omega) (by omega) (by omega) (by omega) (by omega), jSn.nx hv_170 (by omega) (by omega), hi_9_7.step (by omega) (by omega) (by omega) (by rw [hr_189_0, hqz_187, hv_170]; congr 1; unfold jEn; rw [← hr_163_0]; first | (rw [if_pos (by omega)]; done) | (rw [if_neg (by omega)]; done) | (exfalso; omega)) (by omega), by omega⟩) (by omega) _ (lv_sub hl [3, 4, 1, 0] rfl)
            · skip
              have c_178' : r_163.toInt < 0 := jb_ge_n (rfl) ((by decide)) c_178
              first | (have hr_163_1q := hr_163_1.resolve_left (by omega); clear hr_163_1) | (have hr_163_1q := hr_163_1.resolve_right (by omega); clear hr_163_1) | skip
              refine lv_iconst (v := 1) hx hb dX1_part_71 (by decide) ?_
              refine lv_goto (tgt := 76) hx hb dX1_part_72 (by decide) ?_
              refine j7_iastL hx hb hK hh_176 hB hB101 1 rfl (by decide) (by decide) rfl rfl rfl hg_early_177 (x := v3_9.toInt) (rfl) (by omega) (trivial) dX1_part_76 (fun H_191 locs_191 fs_192 hv_191 ho_191 hh_191 => ?_)
              have hv_191 : jSo fs_192 (v3_9.toInt) = 1 := by unfold jSo; rw [hv_191]; try exact (by decide)
              clear hh_176
              refine lv_aload_n hx hb dX1_part_77 rfl (lv_at hl 1 rfl) ?_
              refine lv_iload_n hx hb dX1_part_78 rfl (lv_at hl 4 rfl) ?_
              refine lv_iconst (v := 1) hx hb dX1_part_79 (by decide) ?_
              refine lv_iadd hx hb dX1_part_80 ?_
              refine lv_topi (fun z_193 ez_193 => ?_)
              have hz_193 : z_193.toInt = v3_9.toInt + 1 := by rw [ez_193]; exact jb_iadd2 (rfl) ((by decide)) (by omega)
              have hd_195 := hh_191.iv 0 rfl
              have hd_1955 := hh_191.at 3 rfl
              have hd_1956 := hh_191.at 4 rfl
              have hd_195o := hh_191.iv 1 rfl
              have hh_196 := hh_191.sub (L1 := [(r0, 3, 8, .ref early_177), (r0, 3, 4, .int ws_9), (r0, 3, 3, .int pl), (r0, 3, 5, .ref sa_), (r0, 3, 6, .ref ea_), (r0, 3, 2, .ref tx_)]) [0, 1, 2, 3, 4, 5] rfl (M1 := [(early_177, 101, 40, ca 1, fs_192), (ea_, 172, 40, ca 1, fs_173), (sa_, 171, 40, ca 1, fs_167), (tx_, 173, 1500, ca 1, ft)]) [0, 1, 2, 3] rfl (I1 := []) [] rfl
              clear hh_191
              refine j7_putX hx hb hown hK hh_196 hB hAp hB3 (C := RX1) (T := TX1) (N := 17) rfl (by decide) hg_r0 (i := 4) (by decide) hly_3_4 rfl hlk_69 rfl (ty := .int) (v := .int z_193) (by decide +kernel) rfl rfl (⟨_, rfl, by omega, by omega⟩) rfl (L1 := [(r0, 3, 8, .ref early_177), (r0, 3, 3, .int pl), (r0, 3, 5, .ref sa_), (r0, 3, 6, .ref ea_), (r0, 3, 2, .ref tx_)]) [0, 2, 3, 4, 5] rfl rfl rfl dX1_part_81 (fun H_194 locs_194 hr_194 hh_194 => ?_)
              clear hh_196
              have hd_195n := jDcc.fld hd_195 hg_r0 hr_194 hd_1955 hd_1956 (hh_194.at 3 rfl) (hh_194.at 4 rfl)
              have hd_195on := jOw.put hd_195o hr_194
              have hh_197 := hh_194.addI (jDcc.ie hd_195n)
              clear hh_194
              have hh_198 := hh_197.addI (jOw.ie (dC := dC) (dI := dI) (G0 := G0) (k := 3) (r := r0) (H0 := s.heap) (F := [(3, 0), (3, 1), (3, 2), (3, 3), (3, 4), (3, 5), (3, 6), (3, 7), (3, 8), (3, 9), (3, 10), (3, 11), (3, 12), (3, 13), (3, 14), (3, 15), (3, 16)]) (C := RX1) (T := TX1) (N := 17) rfl (by decide) hh_197.2.2.2.2.1 (hd_195on))
              clear hh_197
              clear hd_195 hd_195n hd_1955 hd_1956 hr_194 hd_195o hd_195on
              refine lv_aload_n hx hb dX1_part_84 rfl (lv_at hl 1 rfl) ?_
              refine lv_aload_n hx hb dX1_part_85 rfl (lv_at hl 1 rfl) ?_
              refine j7_read hx hb hown hK (C := RX1) (T := TX1) (N := 17) rfl hly_3_6 hlk_21 (hh_198.at 4 rfl) dX1_part_86 ?_
              refine lv_iload_n hx hb dX1_part_89 rfl (lv_at hl 4 rfl) ?_
              refine j7_ialdM hx hb hK hh_198 hB172 1 rfl (by decide) hg_ea_ (x := v3_9.toInt) (rfl) (by omega) (j := 1) rfl dX1_part_90 (fun z_199 ez_199 (hz_199 : 0 ≤ z_199.toInt ∧ z_199.toInt ≤ 1500) => ?_)
              have hqz_199 : z_199.toInt = jSo fs_173 (v3_9.toInt) := by unfold jSo; rw [ez_199]
              refine va_calli (A0 := jA base) (H0 := s.heap) (va_runV (As := [.int z_199]) (rest := []) ⟨hx, hb, hml, hown, hts⟩ (uX1_sentenceBeginP l dC dI ca base B hB hAp hB3 hB101 hB173 G0 H_194 r0 z_199 n0 pl tx_ ft) (cwV 1 hts (jgV (jWr_36 _ (List.mem_of_getElem? (i := 6) rfl)) (jWr_36 _ (List.mem_of_getElem? (i := 7) rfl)) (jWr_36 _ (List.mem_of_getElem? (i := 8) rfl)) (jWr_2 _ (List.mem_of_getElem? (i := 21) rfl)) (jWr_36 _ (List.mem_of_getElem? (i := 9) rfl))) rfl rfl rfl (by decide +kernel) ⟨by rw [← hR]; exact Nat.le_of_ble_eq_true rfl, by rw [← hR]; exact Nat.le_of_ble_eq_true rfl⟩) ⟨fun a U g mk q => by obtain ⟨q0, q1, q2, qK, q10, q11, q12, q13, q14⟩ := q; exact ⟨q0, q1, q2, jG.calling g mk a qK, q10, q11, q12, q13, q14⟩, hh_198.recv (C := RX1) (T := TX1) (N := 17) hB3 rfl (by decide) hg_r0 hK, fun U hU hW => ⟨rfl, hU, hh_198.2.1, hG.step hW hU hh_198.1, hg_r0, hg_tx_, (hh_198.2.2.1.sub (L1 := [(r0, 3, 3, .int pl), (r0, 3, 2, .ref tx_)]) [2, 5] rfl), (hh_198.2.2.2.2.2.2.2.1.sub (L1 := [(tx_, 173, 1500, ca 1, ft)]) [3] rfl), by first | omega | (refine ⟨?_, ?_, ?_⟩ <;> (first | omega | rfl | assumption | decide | exact Or.inl rfl | exact Or.inr rfl | (simp only; omega)))⟩⟩ rfl rfl hl.1 rfl (lv_room (Nat.le_of_ble_eq_true rfl)) dX1_part_91 ⟨Nat.zero_le _, Nat.zero_le _⟩) hh_198.1 (fun q _ h => h) (fun q h => h) (fun r_201 u_200 t_200 H_200 locs_200 ht_200 hvm_200 hr_201 hb_200 hz_200 hk_200 hS_200 => ?_)
              rw [ht_200] at hb_200
              obtain ⟨hb_2001, hb_2002, hb_2003, hb_2004, hb_2005⟩ := hb_200
              have hh_200 : jSt (dC, dI) B base G0 G0 EX1_partP s.heap 0 0 [(r0, 3, 4, .int z_193), (r0, 3, 8, .ref early_177), (r0, 3, 3, .int pl), (r0, 3, 5, .ref sa_), (r0, 3, 6, .ref ea_), (r0, 3, 2, .ref tx_)] [(early_177, 101, 40, ca 1, fs_192), (ea_, 172, 40, ca 1, fs_173), (sa_, 171, 40, ca 1, fs_167), (tx_, 173, 1500, ca 1, ft)] [([(3, 0), (3, 1), (3, 2), (3, 3), (3, 4), (3, 5), (3, 6), (3, 7), (3, 8), (3, 9), (3, 10), (3, 11), (3, 12), (3, 13), (3, 14), (3, 15), (3, 16)], jOw (dC, dI) G0 3 r0 s.heap), (jFdo, jDcc dC dI ca G0 (some r0) ph)] H_200 locs_200 := ((hh_198.call hb_2001 hb_2002 hb_2003 hb_2004 hS_200 rfl (L1 := [(r0, 3, 4, .int z_193), (r0, 3, 8, .ref early_177), (r0, 3, 3, .int pl), (r0, 3, 5, .ref sa_), (r0, 3, 6, .ref ea_), (r0, 3, 2, .ref tx_)]) [0, 1, 2, 3, 4, 5] rfl rfl (M1 := [(early_177, 101, 40, ca 1, fs_192), (ea_, 172, 40, ca 1, fs_173), (sa_, 171, 40, ca 1, fs_167), (tx_, 173, 1500, ca 1, ft)]) [0, 1, 2, 3] rfl rfl (I1 := [([(3, 0), (3, 1), (3, 2), (3, 3), (3, 4), (3, 5), (3, 6), (3, 7), (3, 8), (3, 9), (3, 10), (3, 11), (3, 12), (3, 13), (3, 14), (3, 15), (3, 16)], jOw (dC, dI) G0 3 r0 s.heap), (jFdo, jDcc dC dI ca G0 (some r0) ph)]) [0, 1] rfl rfl).more hb_2005)
              clear hh_198 ht_200 hvm_200 hz_200 hk_200 hS_200 hb_2001 hb_2002 hb_2003 hb_2004 hb_2005
              obtain ⟨hr_201_0, hr_201_1, hr_201_2⟩ := hr_201
              refine lv_istore_n (lv' := [(2, .int r_201), (4, .int r_163), (0, .ref r0), (1, .ref r1), (3, .int v3_9)]) hx hb dX1_part_94 rfl hl (by decide) rfl (fun ls hl => ?_)
              obtain ⟨z_202, ez_202⟩ : ∃ y : Int32, y = v3_9 + 1 := ⟨_, rfl⟩
              refine lv_iinc (v := z_202) (lv' := [(3, .int z_202), (2, .int r_201), (4, .int r_163), (0, .ref r0), (1, .ref r1)]) hx hb dX1_part_95 hl (k := 4) rfl (by rw [ez_202]; rfl) (by decide) rfl (fun ls hl => ?_)
              have hz_202 : z_202.toInt = v3_9.toInt + 1 := by rw [ez_202]; exact jb_iadd2 (rfl) (by decide) (by omega)
              refine lv_goto (tgt := 13) hx hb dX1_part_98 (by decide) ?_
              exact L13 r_201 z_202 z_193 fs_167 fs_173 (kf - 1) _ _ (hh_200.sub (L1 := [(r0, 3, 4, .int z_193), (r0, 3, 3, .int pl), (r0, 3, 5, .ref sa_), (r0, 3, 6, .ref ea_), (r0, 3, 2, .ref tx_)]) [0, 2, 3, 4, 5] rfl (M1 := [(ea_, 172, 40, ca 1, fs_173), (sa_, 171, 40, ca 1, fs_167), (tx_, 173, 1500, ca 1, ft)]) [1, 2, 3] rfl (I1 := [([(3, 0), (3, 1), (3, 2), (3, 3), (3, 4), (3, 5), (3, 6), (3, 7), (3, 8), (3, 9), (3, 10), (3, 11), (3, 12), (3, 13), (3, 14), (3, 15), (3, 16)], jOw (dC, dI) G0 3 r0 s.heap), (jFdo, jDcc dC dI ca G0 (some r0) ph)]) [0, 1] rfl) (by refine ⟨by omega, by omega, by omega, by omega, by omega, jSn.put hi_9_5 hi_9_6 hv_164 ho_164 hv_170 ho_170 (by omega) (by omega) (by omega) (by omega) (by omega) (by omega), jSn.nx hv_170 (by omega) (by omega), hi_9_7.step (by omega) (by omega) (by omega) (by rw [hr_201_0, hqz_199, hv_170]; congr 1; unfold jEn; rw [← hr_163_0]; first | (rw [if_pos (by omega)]; done) | (rw [if_neg (by omega)]; done) | (exfalso; omega)) (by omega), by omega⟩) (by omega) _ (lv_sub hl [3, 4, 1, 0] rfl)
          · skip
            have c_169' : r_163.toInt < 0 := jb_ge_n (rfl) ((by decide)) c_169
            first | (have hr_163_1q := hr_163_1.resolve_left (by omega); clear hr_163_1) | (have hr_163_1q := hr_163_1.resolve_right (by omega); clear hr_163_1) | skip
            refine lv_aload_n hx hb dX1_part_51 rfl (lv_at hl 1 rfl) ?_
            refine j7_read hx hb hown hK (C := RX1) (T := TX1) (N := 17) rfl hly_3_3 hlk_42 (hh_168.at 1 rfl) dX1_part_52 ?_
            refine lv_goto (tgt := 60) hx hb dX1_part_55 (by decide) ?_
            have hd_204 := hh_168.iv 0 rfl
            have hh_205 := hh_168.sub (L1 := [(r0, 3, 4, .int ws_9), (r0, 3, 3, .int pl), (r0, 3, 5, .ref sa_), (r0, 3, 6, .ref ea_), (r0, 3, 2, .ref tx_)]) [0, 1, 2, 3, 4] rfl (M1 := [(sa_, 171, 40, ca 1, fs_167), (ea_, 172, 40, ca 1, fe_9), (tx_, 173, 1500, ca 1, ft)]) [0, 1, 2] rfl (I1 := [([(3, 0), (3, 1), (3, 2), (3, 3), (3, 4), (3, 5), (3, 6), (3, 7), (3, 8), (3, 9), (3, 10), (3, 11), (3, 12), (3, 13), (3, 14), (3, 15), (3, 16)], jOw (dC, dI) G0 3 r0 s.heap)]) [1] rfl
            clear hh_168
            have hd_204f := hh_205.at 3 rfl
            refine j7_iastX hx hb hK hh_205 hB hB172 1 rfl (by decide) (by decide) rfl 1 rfl (M1 := [(sa_, 171, 40, ca 1, fs_167), (tx_, 173, 1500, ca 1, ft)]) [0, 2] rfl rfl rfl hg_ea_ (x := v3_9.toInt) (rfl) (by omega) (by first | omega | (refine ⟨?_, ?_⟩ <;> (first | omega | rfl | assumption | decide | exact Or.inl rfl | exact Or.inr rfl | (simp only; omega)))) dX1_part_60 (fun H_203 locs_203 fs_206 hv_203 ho_203 hr_203 hh_203 => ?_)
            have hv_203 : jSo fs_206 (v3_9.toInt) = pl.toInt := by unfold jSo; rw [hv_203]; try exact rfl
            clear hh_205
            have hd_204n := jDcc.arr hd_204 hg_r0 hg_ea_ (Or.inr ⟨rfl, hd_204f⟩) hr_203
            have hh_207 := hh_203.addI (jDcc.ie hd_204n)
            clear hh_203
            clear hd_204 hd_204f hd_204n hr_203
            refine lv_aload_n hx hb dX1_part_61 rfl (lv_at hl 1 rfl) ?_
            obtain ⟨v_208, hv_208, hh_209⟩ := hh_207.pin (C := RX1) (T := TX1) (N := 17) hB3 rfl (by decide) hg_r0 (i := 8) (by decide) rfl
            clear hh_207
            obtain ⟨early_210, rfl, hg_early_210⟩ := hv_208
            refine j7_read hx hb hown hK (C := RX1) (T := TX1) (N := 17) rfl hly_3_8 hlk_27 (hh_209.at 0 rfl) dX1_part_62 ?_
            refine lv_iload_n hx hb dX1_part_65 rfl (lv_at hl 4 rfl) ?_
            refine lv_iload hx hb dX1_part_66 (lv_at hl 0 rfl) ?_
            refine lv_if_ge (tgt := 75) hx hb dX1_part_68 (by decide) (fun c_211 => ?_) (fun c_211 => ?_)
            · skip
              have c_211' : r_163.toInt ≥ 0 := jb_ge (rfl) ((by decide)) c_211
              first | (have hr_163_1q := hr_163_1.resolve_left (by omega); clear hr_163_1) | (have hr_163_1q := hr_163_1.resolve_right (by omega); clear hr_163_1) | skip
              refine lv_iconst (v := 0) hx hb dX1_part_75 (by decide) ?_
              refine j7_iastL hx hb hK hh_209 hB hB101 1 rfl (by decide) (by decide) rfl rfl rfl hg_early_210 (x := v3_9.toInt) (rfl) (by omega) (trivial) dX1_part_76 (fun H_212 locs_212 fs_213 hv_212 ho_212 hh_212 => ?_)
              have hv_212 : jSo fs_213 (v3_9.toInt) = 0 := by unfold jSo; rw [hv_212]; try exact (by decide)
              clear hh_209
              refine lv_aload_n hx hb dX1_part_77 rfl (lv_at hl 1 rfl) ?_
              refine lv_iload_n hx hb dX1_part_78 rfl (lv_at hl 4 rfl) ?_
              refine lv_iconst (v := 1) hx hb dX1_part_79 (by decide) ?_
              refine lv_iadd hx hb dX1_part_80 ?_
              refine lv_topi (fun z_214 ez_214 => ?_)
              have hz_214 : z_214.toInt = v3_9.toInt + 1 := by rw [ez_214]; exact jb_iadd2 (rfl) ((by decide)) (by omega)
              have hd_216 := hh_212.iv 0 rfl
              have hd_2165 := hh_212.at 3 rfl
              have hd_2166 := hh_212.at 4 rfl
              have hd_216o := hh_212.iv 1 rfl
              have hh_217 := hh_212.sub (L1 := [(r0, 3, 8, .ref early_210), (r0, 3, 4, .int ws_9), (r0, 3, 3, .int pl), (r0, 3, 5, .ref sa_), (r0, 3, 6, .ref ea_), (r0, 3, 2, .ref tx_)]) [0, 1, 2, 3, 4, 5] rfl (M1 := [(early_210, 101, 40, ca 1, fs_213), (ea_, 172, 40, ca 1, fs_206), (sa_, 171, 40, ca 1, fs_167), (tx_, 173, 1500, ca 1, ft)]) [0, 1, 2, 3] rfl (I1 := []) [] rfl
              clear hh_212
              refine j7_putX hx hb hown hK hh_217 hB hAp hB3 (C := RX1) (T := TX1) (N := 17) rfl (by decide) hg_r0 (i := 4) (by decide) hly_3_4 rfl hlk_69 rfl (ty := .int) (v := .int z_214) (by decide +kernel) rfl rfl (⟨_, rfl, by omega, by omega⟩) rfl (L1 := [(r0, 3, 8, .ref early_210), (r0, 3, 3, .int pl), (r0, 3, 5, .ref sa_), (r0, 3, 6, .ref ea_), (r0, 3, 2, .ref tx_)]) [0, 2, 3, 4, 5] rfl rfl rfl dX1_part_81 (fun H_215 locs_215 hr_215 hh_215 => ?_)
              clear hh_217
              have hd_216n := jDcc.fld hd_216 hg_r0 hr_215 hd_2165 hd_2166 (hh_215.at 3 rfl) (hh_215.at 4 rfl)
              have hd_216on := jOw.put hd_216o hr_215
              have hh_218 := hh_215.addI (jDcc.ie hd_216n)
              clear hh_215
              have hh_219 := hh_218.addI (jOw.ie (dC := dC) (dI := dI) (G0 := G0) (k := 3) (r := r0) (H0 := s.heap) (F := [(3, 0), (3, 1), (3, 2), (3, 3), (3, 4), (3, 5), (3, 6), (3, 7), (3, 8), (3, 9), (3, 10), (3, 11), (3, 12), (3, 13), (3, 14), (3, 15), (3, 16)]) (C := RX1) (T := TX1) (N := 17) rfl (by decide) hh_218.2.2.2.2.1 (hd_216on))
              clear hh_218
              clear hd_216 hd_216n hd_2165 hd_2166 hr_215 hd_216o hd_216on
              refine lv_aload_n hx hb dX1_part_84 rfl (lv_at hl 1 rfl) ?_
              refine lv_aload_n hx hb dX1_part_85 rfl (lv_at hl 1 rfl) ?_
              refine j7_read hx hb hown hK (C := RX1) (T := TX1) (N := 17) rfl hly_3_6 hlk_21 (hh_219.at 4 rfl) dX1_part_86 ?_
              refine lv_iload_n hx hb dX1_part_89 rfl (lv_at hl 4 rfl) ?_
              refine j7_ialdM hx hb hK hh_219 hB172 1 rfl (by decide) hg_ea_ (x := v3_9.toInt) (rfl) (by omega) (j := 1) rfl dX1_part_90 (fun z_220 ez_220 (hz_220 : 0 ≤ z_220.toInt ∧ z_220.toInt ≤ 1500) => ?_)
              have hqz_220 : z_220.toInt = jSo fs_206 (v3_9.toInt) := by unfold jSo; rw [ez_220]
              refine va_calli (A0 := jA base) (H0 := s.heap) (va_runV (As := [.int z_220]) (rest := []) ⟨hx, hb, hml, hown, hts⟩ (uX1_sentenceBeginP l dC dI ca base B hB hAp hB3 hB101 hB173 G0 H_215 r0 z_220 n0 pl tx_ ft) (cwV 1 hts (jgV (jWr_36 _ (List.mem_of_getElem? (i := 6) rfl)) (jWr_36 _ (List.mem_of_getElem? (i := 7) rfl)) (jWr_36 _ (List.mem_of_getElem? (i := 8) rfl)) (jWr_2 _ (List.mem_of_getElem? (i := 21) rfl)) (jWr_36 _ (List.mem_of_getElem? (i := 9) rfl))) rfl rfl rfl (by decide +kernel) ⟨by rw [← hR]; exact Nat.le_of_ble_eq_true rfl, by rw [← hR]; exact Nat.le_of_ble_eq_true rfl⟩) ⟨fun a U g mk q => by obtain ⟨q0, q1, q2, qK, q10, q11, q12, q13, q14⟩ := q; exact ⟨q0, q1, q2, jG.calling g mk a qK, q10, q11, q12, q13, q14⟩, hh_219.recv (C := RX1) (T := TX1) (N := 17) hB3 rfl (by decide) hg_r0 hK, fun U hU hW => ⟨rfl, hU, hh_219.2.1, hG.step hW hU hh_219.1, hg_r0, hg_tx_, (hh_219.2.2.1.sub (L1 := [(r0, 3, 3, .int pl), (r0, 3, 2, .ref tx_)]) [2, 5] rfl), (hh_219.2.2.2.2.2.2.2.1.sub (L1 := [(tx_, 173, 1500, ca 1, ft)]) [3] rfl), by first | omega | (refine ⟨?_, ?_, ?_⟩ <;> (first | omega | rfl | assumption | decide | exact Or.inl rfl | exact Or.inr rfl | (simp only; omega)))⟩⟩ rfl rfl hl.1 rfl (lv_room (Nat.le_of_ble_eq_true rfl)) dX1_part_91 ⟨Nat.zero_le _, Nat.zero_le _⟩) hh_219.1 (fun q _ h => h) (fun q h => h) (fun r_222 u_221 t_221 H_221 locs_221 ht_221 hvm_221 hr_222 hb_221 hz_221 hk_221 hS_221 => ?_)
              rw [ht_221] at hb_221
              obtain ⟨hb_2211, hb_2212, hb_2213, hb_2214, hb_2215⟩ := hb_221
              have hh_221 : jSt (dC, dI) B base G0 G0 EX1_partP s.heap 0 0 [(r0, 3, 4, .int z_214), (r0, 3, 8, .ref early_210), (r0, 3, 3, .int pl), (r0, 3, 5, .ref sa_), (r0, 3, 6, .ref ea_), (r0, 3, 2, .ref tx_)] [(early_210, 101, 40, ca 1, fs_213), (ea_, 172, 40, ca 1, fs_206), (sa_, 171, 40, ca 1, fs_167), (tx_, 173, 1500, ca 1, ft)] [([(3, 0), (3, 1), (3, 2), (3, 3), (3, 4), (3, 5), (3, 6), (3, 7), (3, 8), (3, 9), (3, 10), (3, 11), (3, 12), (3, 13), (3, 14), (3, 15), (3, 16)], jOw (dC, dI) G0 3 r0 s.heap), (jFdo, jDcc dC dI ca G0 (some r0) ph)] H_221 locs_221 := ((hh_219.call hb_2211 hb_2212 hb_2213 hb_2214 hS_221 rfl (L1 := [(r0, 3, 4, .int z_214), (r0, 3, 8, .ref early_210), (r0, 3, 3, .int pl), (r0, 3, 5, .ref sa_), (r0, 3, 6, .ref ea_), (r0, 3, 2, .ref tx_)]) [0, 1, 2, 3, 4, 5] rfl rfl (M1 := [(early_210, 101, 40, ca 1, fs_213), (ea_, 172, 40, ca 1, fs_206), (sa_, 171, 40, ca 1, fs_167), (tx_, 173, 1500, ca 1, ft)]) [0, 1, 2, 3] rfl rfl (I1 := [([(3, 0), (3, 1), (3, 2), (3, 3), (3, 4), (3, 5), (3, 6), (3, 7), (3, 8), (3, 9), (3, 10), (3, 11), (3, 12), (3, 13), (3, 14), (3, 15), (3, 16)], jOw (dC, dI) G0 3 r0 s.heap), (jFdo, jDcc dC dI ca G0 (some r0) ph)]) [0, 1] rfl rfl).more hb_2215)
              clear hh_219 ht_221 hvm_221 hz_221 hk_221 hS_221 hb_2211 hb_2212 hb_2213 hb_2214 hb_2215
              obtain ⟨hr_222_0, hr_222_1, hr_222_2⟩ := hr_222
              refine lv_istore_n (lv' := [(2, .int r_222), (4, .int r_163), (0, .ref r0), (1, .ref r1), (3, .int v3_9)]) hx hb dX1_part_94 rfl hl (by decide) rfl (fun ls hl => ?_)
              obtain ⟨z_223, ez_223⟩ : ∃ y : Int32, y = v3_9 + 1 := ⟨_, rfl⟩
              refine lv_iinc (v := z_223) (lv' := [(3, .int z_223), (2, .int r_222), (4, .int r_163), (0, .ref r0), (1, .ref r1)]) hx hb dX1_part_95 hl (k := 4) rfl (by rw [ez_223]; rfl) (by decide) rfl (fun ls hl => ?_)
              have hz_223 : z_223.toInt = v3_9.toInt + 1 := by rw [ez_223]; exact jb_iadd2 (rfl) (by decide) (by omega)
              refine lv_goto (tgt := 13) hx hb dX1_part_98 (by decide) ?_
              exact L13 r_222 z_223 z_214 fs_167 fs_206 (kf - 1) _ _ (hh_221.sub (L1 := [(r0, 3, 4, .int z_214), (r0, 3, 3, .int pl), (r0, 3, 5, .ref sa_), (r0, 3, 6, .ref ea_), (r0, 3, 2, .ref tx_)]) [0, 2, 3, 4, 5] rfl (M1 := [(ea_, 172, 40, ca 1, fs_206), (sa_, 171, 40, ca 1, fs_167), (tx_, 173, 1500, ca 1, ft)]) [1, 2, 3] rfl (I1 := [([(3, 0), (3, 1), (3, 2), (3, 3), (3, 4), (3, 5), (3, 6), (3, 7), (3, 8), (3, 9), (3, 10), (3, 11), (3, 12), (3, 13), (3, 14), (3, 15), (3, 16)], jOw (dC, dI) G0 3 r0 s.heap), (jFdo, jDcc dC dI ca G0 (some r0) ph)]) [0, 1] rfl) (by refine ⟨by omega, by omega, by omega, by omega, by omega, jSn.put hi_9_5 hi_9_6 hv_164 ho_164 hv_203 ho_203 (by omega) (by omega) (by omega) (by omega) (by omega) (by omega), jSn.nx hv_203 (by omega) (by omega), hi_9_7.step (by omega) (by omega) (by omega) (by rw [hr_222_0, hqz_220, hv_203]; congr 1; unfold jEn; rw [← hr_163_0]; first | (rw [if_pos (by omega)]; done) | (rw [if_neg (by omega)]; done) | (exfalso; omega)) (by omega), by omega⟩) (by omega) _ (lv_sub hl [3, 4, 1, 0] rfl)
            · skip
              have c_211' : r_163.toInt < 0 := jb_ge_n (rfl) ((by decide)) c_211
              first | (have hr_163_1q := hr_163_1.resolve_left (by omega); clear hr_163_1) | (have hr_163_1q := hr_163_1.resolve_right (by omega); clear hr_163_1) | skip
              refine lv_iconst (v := 1) hx hb dX1_part_71 (by decide) ?_
              refine lv_goto (tgt := 76) hx hb dX1_part_72 (by decide) ?_
              refine j7_iastL hx hb hK hh_209 hB hB101 1 rfl (by decide) (by decide) rfl rfl rfl hg_early_210 (x := v3_9.toInt) (rfl) (by omega) (trivial) dX1_part_76 (fun H_224 locs_224 fs_225 hv_224 ho_224 hh_224 => ?_)
              have hv_224 : jSo fs_225 (v3_9.toInt) = 1 := by unfold jSo; rw [hv_224]; try exact (by decide)
              clear hh_209
              refine lv_aload_n hx hb dX1_part_77 rfl (lv_at hl 1 rfl) ?_
              refine lv_iload_n hx hb dX1_part_78 rfl (lv_at hl 4 rfl) ?_
              refine lv_iconst (v := 1) hx hb dX1_part_79 (by decide) ?_
              refine lv_iadd hx hb dX1_part_80 ?_
              refine lv_topi (fun z_226 ez_226 => ?_)
              have hz_226 : z_226.toInt = v3_9.toInt + 1 := by rw [ez_226]; exact jb_iadd2 (rfl) ((by decide)) (by omega)
              have hd_228 := hh_224.iv 0 rfl
              have hd_2285 := hh_224.at 3 rfl
              have hd_2286 := hh_224.at 4 rfl
              have hd_228o := hh_224.iv 1 rfl
              have hh_229 := hh_224.sub (L1 := [(r0, 3, 8, .ref early_210), (r0, 3, 4, .int ws_9), (r0, 3, 3, .int pl), (r0, 3, 5, .ref sa_), (r0, 3, 6, .ref ea_), (r0, 3, 2, .ref tx_)]) [0, 1, 2, 3, 4, 5] rfl (M1 := [(early_210, 101, 40, ca 1, fs_225), (ea_, 172, 40, ca 1, fs_206), (sa_, 171, 40, ca 1, fs_167), (tx_, 173, 1500, ca 1, ft)]) [0, 1, 2, 3] rfl (I1 := []) [] rfl
              clear hh_224
              refine j7_putX hx hb hown hK hh_229 hB hAp hB3 (C := RX1) (T := TX1) (N := 17) rfl (by decide) hg_r0 (i := 4) (by decide) hly_3_4 rfl hlk_69 rfl (ty := .int) (v := .int z_226) (by decide +kernel) rfl rfl (⟨_, rfl, by omega, by omega⟩) rfl (L1 := [(r0, 3, 8, .ref early_210), (r0, 3, 3, .int pl), (r0, 3, 5, .ref sa_), (r0, 3, 6, .ref ea_), (r0, 3, 2, .ref tx_)]) [0, 2, 3, 4, 5] rfl rfl rfl dX1_part_81 (fun H_227 locs_227 hr_227 hh_227 => ?_)
              clear hh_229
              have hd_228n := jDcc.fld hd_228 hg_r0 hr_227 hd_2285 hd_2286 (hh_227.at 3 rfl) (hh_227.at 4 rfl)
              have hd_228on := jOw.put hd_228o hr_227
              have hh_230 := hh_227.addI (jDcc.ie hd_228n)
              clear hh_227
              have hh_231 := hh_230.addI (jOw.ie (dC := dC) (dI := dI) (G0 := G0) (k := 3) (r := r0) (H0 := s.heap) (F := [(3, 0), (3, 1), (3, 2), (3, 3), (3, 4), (3, 5), (3, 6), (3, 7), (3, 8), (3, 9), (3, 10), (3, 11), (3, 12), (3, 13), (3, 14), (3, 15), (3, 16)]) (C := RX1) (T := TX1) (N := 17) rfl (by decide) hh_230.2.2.2.2.1 (hd_228on))
              clear hh_230
              clear hd_228 hd_228n hd_2285 hd_2286 hr_227 hd_228o hd_228on
              refine lv_aload_n hx hb dX1_part_84 rfl (lv_at hl 1 rfl) ?_
              refine lv_aload_n hx hb dX1_part_85 rfl (lv_at hl 1 rfl) ?_
              refine j7_read hx hb hown hK (C := RX1) (T := TX1) (N := 17) rfl hly_3_6 hlk_21 (hh_231.at 4 rfl) dX1_part_86 ?_
              refine lv_iload_n hx hb dX1_part_89 rfl (lv_at hl 4 rfl) ?_
              refine j7_ialdM hx hb hK hh_231 hB172 1 rfl (by decide) hg_ea_ (x := v3_9.toInt) (rfl) (by omega) (j := 1) rfl dX1_part_90 (fun z_232 ez_232 (hz_232 : 0 ≤ z_232.toInt ∧ z_232.toInt ≤ 1500) => ?_)
              have hqz_232 : z_232.toInt = jSo fs_206 (v3_9.toInt) := by unfold jSo; rw [ez_232]
              refine va_calli (A0 := jA base) (H0 := s.heap) (va_runV (As := [.int z_232]) (rest := []) ⟨hx, hb, hml, hown, hts⟩ (uX1_sentenceBeginP l dC dI ca base B hB hAp hB3 hB101 hB173 G0 H_227 r0 z_232 n0 pl tx_ ft) (cwV 1 hts (jgV (jWr_36 _ (List.mem_of_getElem? (i := 6) rfl)) (jWr_36 _ (List.mem_of_getElem? (i := 7) rfl)) (jWr_36 _ (List.mem_of_getElem? (i := 8) rfl)) (jWr_2 _ (List.mem_of_getElem? (i := 21) rfl)) (jWr_36 _ (List.mem_of_getElem? (i := 9) rfl))) rfl rfl rfl (by decide +kernel) ⟨by rw [← hR]; exact Nat.le_of_ble_eq_true rfl, by rw [← hR]; exact Nat.le_of_ble_eq_true rfl⟩) ⟨fun a U g mk q => by obtain ⟨q0, q1, q2, qK, q10, q11, q12, q13, q14⟩ := q; exact ⟨q0, q1, q2, jG.calling g mk a qK, q10, q11, q12, q13, q14⟩, hh_231.recv (C := RX1) (T := TX1) (N := 17) hB3 rfl (by decide) hg_r0 hK, fun U hU hW => ⟨rfl, hU, hh_231.2.1, hG.step hW hU hh_231.1, hg_r0, hg_tx_, (hh_231.2.2.1.sub (L1 := [(r0, 3, 3, .int pl), (r0, 3, 2, .ref tx_)]) [2, 5] rfl), (hh_231.2.2.2.2.2.2.2.1.sub (L1 := [(tx_, 173, 1500, ca 1, ft)]) [3] rfl), by first | omega | (refine ⟨?_, ?_, ?_⟩ <;> (first | omega | rfl | assumption | decide | exact Or.inl rfl | exact Or.inr rfl | (simp only; omega)))⟩⟩ rfl rfl hl.1 rfl (lv_room (Nat.le_of_ble_eq_true rfl)) dX1_part_91 ⟨Nat.zero_le _, Nat.zero_le _⟩) hh_231.1 (fun q _ h => h) (fun q h => h) (fun r_234 u_233 t_233 H_233 locs_233 ht_233 hvm_233 hr_234 hb_233 hz_233 hk_233 hS_233 => ?_)
              rw [ht_233] at hb_233
              obtain ⟨hb_2331, hb_2332, hb_2333, hb_2334, hb_2335⟩ := hb_233
              have hh_233 : jSt (dC, dI) B base G0 G0 EX1_partP s.heap 0 0 [(r0, 3, 4, .int z_226), (r0, 3, 8, .ref early_210), (r0, 3, 3, .int pl), (r0, 3, 5, .ref sa_), (r0, 3, 6, .ref ea_), (r0, 3, 2, .ref tx_)] [(early_210, 101, 40, ca 1, fs_225), (ea_, 172, 40, ca 1, fs_206), (sa_, 171, 40, ca 1, fs_167), (tx_, 173, 1500, ca 1, ft)] [([(3, 0), (3, 1), (3, 2), (3, 3), (3, 4), (3, 5), (3, 6), (3, 7), (3, 8), (3, 9), (3, 10), (3, 11), (3, 12), (3, 13), (3, 14), (3, 15), (3, 16)], jOw (dC, dI) G0 3 r0 s.heap), (jFdo, jDcc dC dI ca G0 (some r0) ph)] H_233 locs_233 := ((hh_231.call hb_2331 hb_2332 hb_2333 hb_2334 hS_233 rfl (L1 := [(r0, 3, 4, .int z_226), (r0, 3, 8, .ref early_210), (r0, 3, 3, .int pl), (r0, 3, 5, .ref sa_), (r0, 3, 6, .ref ea_), (r0, 3, 2, .ref tx_)]) [0, 1, 2, 3, 4, 5] rfl rfl (M1 := [(early_210, 101, 40, ca 1, fs_225), (ea_, 172, 40, ca 1, fs_206), (sa_, 171, 40, ca 1, fs_167), (tx_, 173, 1500, ca 1, ft)]) [0, 1, 2, 3] rfl rfl (I1 := [([(3, 0), (3, 1), (3, 2), (3, 3), (3, 4), (3, 5), (3, 6), (3, 7), (3, 8), (3, 9), (3, 10), (3, 11), (3, 12), (3, 13), (3, 14), (3, 15), (3, 16)], jOw (dC, dI) G0 3 r0 s.heap), (jFdo, jDcc dC dI ca G0 (some r0) ph)]) [0, 1] rfl rfl).more hb_2335)
              clear hh_231 ht_233 hvm_233 hz_233 hk_233 hS_233 hb_2331 hb_2332 hb_2333 hb_2334 hb_2335
              obtain ⟨hr_234_0, hr_234_1, hr_234_2⟩ := hr_234
              refine lv_istore_n (lv' := [(2, .int r_234), (4, .int r_163), (0, .ref r0), (1, .ref r1), (3, .int v3_9)]) hx hb dX1_part_94 rfl hl (by decide) rfl (fun ls hl => ?_)
              obtain ⟨z_235, ez_235⟩ : ∃ y : Int32, y = v3_9 + 1 := ⟨_, rfl⟩
              refine lv_iinc (v := z_235) (lv' := [(3, .int z_235), (2, .int r_234), (4, .int r_163), (0, .ref r0), (1, .ref r1)]) hx hb dX1_part_95 hl (k := 4) rfl (by rw [ez_235]; rfl) (by decide) rfl (fun ls hl => ?_)
              have hz_235 : z_235.toInt = v3_9.toInt + 1 := by rw [ez_235]; exact jb_iadd2 (rfl) (by decide) (by omega)
              refine lv_goto (tgt := 13) hx hb dX1_part_98 (by decide) ?_
              exact L13 r_234 z_235 z_226 fs_167 fs_206 (kf - 1) _ _ (hh_233.sub (L1 := [(r0, 3, 4, .int z_226), (r0, 3, 3, .int pl), (r0, 3, 5, .ref sa_), (r0, 3, 6, .ref ea_), (r0, 3, 2, .ref tx_)]) [0, 2, 3, 4, 5] rfl (M1 := [(ea_, 172, 40, ca 1, fs_206), (sa_, 171, 40, ca 1, fs_167), (tx_, 173, 1500, ca 1, ft)]) [1, 2, 3] rfl (I1 := [([(3, 0), (3, 1), (3, 2), (3, 3), (3, 4), (3, 5), (3, 6), (3, 7), (3, 8), (3, 9), (3, 10), (3, 11), (3, 12), (3, 13), (3, 14), (3, 15), (3, 16)], jOw (dC, dI) G0 3 r0 s.heap), (jFdo, jDcc dC dI ca G0 (some r0) ph)]) [0, 1] rfl) (by refine ⟨by omega, by omega, by omega, by omega, by omega, jSn.put hi_9_5 hi_9_6 hv_164 ho_164 hv_203 ho_203 (by omega) (by omega) (by omega) (by omega) (by omega) (by omega), jSn.nx hv_203 (by omega) (by omega), hi_9_7.step (by omega) (by omega) (by omega) (by rw [hr_234_0, hqz_232, hv_203]; congr 1; unfold jEn; rw [← hr_163_0]; first | (rw [if_pos (by omega)]; done) | (rw [if_neg (by omega)]; done) | (exfalso; omega)) (by omega), by omega⟩) (by omega) _ (lv_sub hl [3, 4, 1, 0] rfl)
  exact L13 (40 - (0 : Int32).toInt : Int).toNat.succ r_8 0 0 fb fe ((pl.toInt - jGap ft pl.toInt 0).toNat + 2) _ _ (hh_7.sub (L1 := [(r0, 3, 4, .int 0), (r0, 3, 3, .int pl), (r0, 3, 5, .ref sa_), (r0, 3, 6, .ref ea_), (r0, 3, 2, .ref tx_)]) [0, 1, 2, 3, 4] rfl (M1 := [(ea_, 172, 40, ca 1, fe), (sa_, 171, 40, ca 1, fb), (tx_, 173, 1500, ca 1, ft)]) [1, 0, 2] rfl (I1 := [([(3, 0), (3, 1), (3, 2), (3, 3), (3, 4), (3, 5), (3, 6), (3, 7), (3, 8), (3, 9), (3, 10), (3, 11), (3, 12), (3, 13), (3, 14), (3, 15), (3, 16)], jOw (dC, dI) G0 3 r0 s.heap), (jFdo, jDcc dC dI ca G0 (some r0) ph)]) [0, 1] rfl) (by refine ⟨by omega, by omega, by omega, by omega, by omega, jSn.zero (by omega), Or.inl (by omega), ?_, by omega⟩; rw [hk0, hr_8_0]; exact Or.inl ⟨by omega, rfl⟩) (by omega) _ (lv_sub hl [2, 3, 1, 0] rfl)
end
