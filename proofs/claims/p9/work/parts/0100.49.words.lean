section
theorem jT94 : ∀ w ∈ jTl94, w ∈ jWl := fun w h => jT93 w (List.mem_append_right _ h)
theorem jWr_94 : ∀ w ∈ wsL_law_r94, w ∈ jWl := fun w h => jT94 w (List.mem_append_left _ h)
end
section
def EX11_opensCommentt9 : List (Nat × Nat) := []
def EX11_commentEndt9 : List (Nat × Nat) := []
set_option maxHeartbeats 4000000 in
set_option maxRecDepth 20000 in
theorem uX11_opensCommentt9 (l : Launch) (dC : Nat → ClassId) (dI : Nat → Nat → Nat) (ca : Nat → ClassId) (base : Nat) (B : jF) (hB : jBok B) (hAp : jAp (dC, dI)) (hB173 : ∀ n G a H, B 173 n G a H ↔ jAr (dC, dI) (ca 1) (fun j z => True) n a H) (G0 : jT) (H0 : Heap) (r0 : Nat) (a1 : Int32) (a2 : Int32) (n0 : Nat) : Met l yX11_opensComment (jw yX11_opensComment cX11_opensComment 3 (some .boolean)) ({ frames := 0, cells := 0, slots := 0, locals := 0 }) (va_Pc [.ref r0, .int a1, .int a2] (fun U => U.heap = H0 ∧ jX B base G0 [] H0 ∧ jG dC dI ca base U ∧ G0 r0 = some (173, n0) ∧ jP (dC, dI) G0 H0 [] ∧ n0 < 1000000 ∧ a1.toInt ≤ 1000000)) (va_Qi (S := Unit) (fun r u => (r = 0 ∨ r = 1) ∧ (r.toInt = 0 ∨ (0 ≤ a1.toInt ∧ a1.toInt + 1 < a2.toInt ∧ a2.toInt ≤ n0))) (fun u t => jRt (dC, dI) B base G0 EX11_opensCommentt9 H0 [] t.heap) (jA base)) 0 0 (jA base) := by
  refine Met.ofW (cc := cX11_opensComment) (maxL := 3) (ret := (some .boolean)) (by decide) rfl ?_
  intro p e s m args below meth c s₁ Bd hml hv
  obtain ⟨rfl, hH0, hX, hG, hg_r0, hP0, hp0, hp1⟩ := hv
  have hK := hG.1
  have hx := Bd.exec
  have hb := Bd.bytes
  have hr := Bd.returns
  have hts := atoms_spec (ws := (jw yX11_opensComment cX11_opensComment 3 (some .boolean))) Bd.pre
  have htw : ∀ w ∈ jWl, w.before _ s = true := fun w h => hts w (List.mem_cons_of_mem _ h)
  have hown : s.vm.findClass RX11 = some m.cls := findClass_of_methodNamed Bd.named
  have hlocks := Bd.notSynchronized
  obtain ⟨Q, hQ⟩ : ∃ Q, Q = MQ below (va_Qi (S := Unit) (fun r u => (r = 0 ∨ r = 1) ∧ (r.toInt = 0 ∨ (0 ≤ a1.toInt ∧ a1.toInt + 1 < a2.toInt ∧ a2.toInt ≤ n0))) (fun u t => jRt (dC, dI) B base G0 EX11_opensCommentt9 H0 [] t.heap) (jA base)) ([.ref r0, .int a1, .int a2] : List Value).toArray s 0 0 (jA base) := ⟨_, rfl⟩
  rw [← hQ]
  have hl := lv_entry ([.ref r0, .int a1, .int a2]) (n := 3) (Nat.le_of_ble_eq_true rfl)
  rw [lg_entry_eq]
  generalize (lg_sl ([.ref r0, .int a1, .int a2]) ++ List.replicate (3 - (lg_sl ([.ref r0, .int a1, .int a2])).length) Slot.unset).toArray = ls at hl ⊢
  have hl : lv_has ls 3 [(0, .ref r0), (1, .int a1), (2, .int a2)] := hl
  generalize hR : (headSpec (jw yX11_opensComment cX11_opensComment 3 (some .boolean)) ({ frames := 0, cells := 0, slots := 0, locals := 0 })).room = R
  subst hH0
  have hh : jSt (dC, dI) B base G0 G0 EX11_opensCommentt9 s.heap 0 0 [] [] [] s.heap [] := jSt.start hX hP0 jMc.nil jIs.nil
  clear hX hP0
  have hk0 : (0 : Int32).toInt = 0 := by decide
  have hk1 : (1 : Int32).toInt = 1 := by decide
  have hk40 : (40 : Int32).toInt = 40 := by decide
  have hk42 : (42 : Int32).toInt = 42 := by decide
  have hrg_a1 := jb_rng a1
  have hrg_a2 := jb_rng a2
  refine lv_iload_n hx hb dX11_opensComment_0 rfl (lv_at hl 1 rfl) ?_
  refine lv_if_lt (tgt := 39) hx hb dX11_opensComment_1 (by decide) (fun c_1 => ?_) (fun c_1 => ?_)
  · skip
    have c_1' : a1.toInt < 0 := jb_lt (rfl) ((by decide)) c_1
    refine lv_iconst (v := 0) hx hb dX11_opensComment_39 (by decide) ?_
    rw [hQ]
    exact W.zret (v := 0) hx hb hr (jb_nz (Or.inl rfl)) (fun t ht hW => ⟨⟨0, (), rfl, ⟨(Or.inl rfl), by first | omega | rfl | assumption | decide | exact Or.inl rfl | exact Or.inr rfl | (simp only; omega)⟩, hh.rt (M1 := []) [] rfl ht⟩, by rw [ht]; try exact hh.1.1, fun q h9 hq => by rw [ht]; try exact hh.1.2.1 q h9 hq⟩) hh.1.2.2 dX11_opensComment_40
  · skip
    have c_1' : a1.toInt ≥ 0 := jb_lt_n (rfl) ((by decide)) c_1
    refine lv_iload_n hx hb dX11_opensComment_4 rfl (lv_at hl 1 rfl) ?_
    refine lv_iconst (v := 1) hx hb dX11_opensComment_5 (by decide) ?_
    refine lv_iadd hx hb dX11_opensComment_6 ?_
    refine lv_topi (fun z_2 ez_2 => ?_)
    have hz_2 : z_2.toInt = a1.toInt + 1 := by rw [ez_2]; exact jb_iadd2 (rfl) ((by decide)) (by omega)
    refine lv_iload_n hx hb dX11_opensComment_7 rfl (lv_at hl 2 rfl) ?_
    refine lv_icmp_ge (tgt := 39) hx hb dX11_opensComment_8 (by decide) (fun c_3 => ?_) (fun c_3 => ?_)
    · skip
      have c_3' : z_2.toInt ≥ a2.toInt := jb_ge (rfl) (rfl) c_3
      refine lv_iconst (v := 0) hx hb dX11_opensComment_39 (by decide) ?_
      rw [hQ]
      exact W.zret (v := 0) hx hb hr (jb_nz (Or.inl rfl)) (fun t ht hW => ⟨⟨0, (), rfl, ⟨(Or.inl rfl), by first | omega | rfl | assumption | decide | exact Or.inl rfl | exact Or.inr rfl | (simp only; omega)⟩, hh.rt (M1 := []) [] rfl ht⟩, by rw [ht]; try exact hh.1.1, fun q h9 hq => by rw [ht]; try exact hh.1.2.1 q h9 hq⟩) hh.1.2.2 dX11_opensComment_40
    · skip
      have c_3' : z_2.toInt < a2.toInt := jb_ge_n (rfl) (rfl) c_3
      refine lv_iload_n hx hb dX11_opensComment_11 rfl (lv_at hl 2 rfl) ?_
      refine lv_aload_n hx hb dX11_opensComment_12 rfl (lv_at hl 0 rfl) ?_
      refine j7_len hx hb hK hh hB173 1 rfl (by decide) hg_r0 (by omega) dX11_opensComment_13 (fun z_4 hz_4 => ?_)
      refine lv_icmp_gt (tgt := 39) hx hb dX11_opensComment_14 (by decide) (fun c_5 => ?_) (fun c_5 => ?_)
      · skip
        have c_5' : a2.toInt > z_4.toInt := jb_gt (rfl) (rfl) c_5
        refine lv_iconst (v := 0) hx hb dX11_opensComment_39 (by decide) ?_
        rw [hQ]
        exact W.zret (v := 0) hx hb hr (jb_nz (Or.inl rfl)) (fun t ht hW => ⟨⟨0, (), rfl, ⟨(Or.inl rfl), by first | omega | rfl | assumption | decide | exact Or.inl rfl | exact Or.inr rfl | (simp only; omega)⟩, hh.rt (M1 := []) [] rfl ht⟩, by rw [ht]; try exact hh.1.1, fun q h9 hq => by rw [ht]; try exact hh.1.2.1 q h9 hq⟩) hh.1.2.2 dX11_opensComment_40
      · skip
        have c_5' : a2.toInt ≤ z_4.toInt := jb_gt_n (rfl) (rfl) c_5
        refine lv_aload_n hx hb dX11_opensComment_17 rfl (lv_at hl 0 rfl) ?_
        refine lv_iload_n hx hb dX11_opensComment_18 rfl (lv_at hl 1 rfl) ?_
        refine j7_iald hx hb hK hh hB173 1 rfl (by decide) hg_r0 (x := a1.toInt) (rfl) (by omega) dX11_opensComment_19 (fun z_6 (hz_6 : True) => ?_)
        refine lv_bipush (v := 40) hx hb dX11_opensComment_20 (by decide) ?_
        refine lv_icmp_ne (tgt := 39) hx hb dX11_opensComment_22 (by decide) (fun c_7 => ?_) (fun c_7 => ?_)
        · skip
          have c_7' : z_6.toInt ≠ 40 := jb_ne (rfl) ((by decide)) c_7
          refine lv_iconst (v := 0) hx hb dX11_opensComment_39 (by decide) ?_
          rw [hQ]
          exact W.zret (v := 0) hx hb hr (jb_nz (Or.inl rfl)) (fun t ht hW => ⟨⟨0, (), rfl, ⟨(Or.inl rfl), by first | omega | rfl | assumption | decide | exact Or.inl rfl | exact Or.inr rfl | (simp only; omega)⟩, hh.rt (M1 := []) [] rfl ht⟩, by rw [ht]; try exact hh.1.1, fun q h9 hq => by rw [ht]; try exact hh.1.2.1 q h9 hq⟩) hh.1.2.2 dX11_opensComment_40
        · skip
          have c_7' : z_6.toInt = 40 := jb_ne_n (rfl) ((by decide)) c_7
          refine lv_aload_n hx hb dX11_opensComment_25 rfl (lv_at hl 0 rfl) ?_
          refine lv_iload_n hx hb dX11_opensComment_26 rfl (lv_at hl 1 rfl) ?_
          refine lv_iconst (v := 1) hx hb dX11_opensComment_27 (by decide) ?_
          refine lv_iadd hx hb dX11_opensComment_28 ?_
          refine lv_topi (fun z_8 ez_8 => ?_)
          have hz_8 : z_8.toInt = a1.toInt + 1 := by rw [ez_8]; exact jb_iadd2 (rfl) ((by decide)) (by omega)
          refine j7_iald hx hb hK hh hB173 1 rfl (by decide) hg_r0 (x := z_8.toInt) (rfl) (by omega) dX11_opensComment_29 (fun z_9 (hz_9 : True) => ?_)
          refine lv_bipush (v := 42) hx hb dX11_opensComment_30 (by decide) ?_
          refine lv_icmp_ne (tgt := 39) hx hb dX11_opensComment_32 (by decide) (fun c_10 => ?_) (fun c_10 => ?_)
          · skip
            have c_10' : z_9.toInt ≠ 42 := jb_ne (rfl) ((by decide)) c_10
            refine lv_iconst (v := 0) hx hb dX11_opensComment_39 (by decide) ?_
            rw [hQ]
            exact W.zret (v := 0) hx hb hr (jb_nz (Or.inl rfl)) (fun t ht hW => ⟨⟨0, (), rfl, ⟨(Or.inl rfl), by first | omega | rfl | assumption | decide | exact Or.inl rfl | exact Or.inr rfl | (simp only; omega)⟩, hh.rt (M1 := []) [] rfl ht⟩, by rw [ht]; try exact hh.1.1, fun q h9 hq => by rw [ht]; try exact hh.1.2.1 q h9 hq⟩) hh.1.2.2 dX11_opensComment_40
          · skip
            have c_10' : z_9.toInt = 42 := jb_ne_n (rfl) ((by decide)) c_10
            refine lv_iconst (v := 1) hx hb dX11_opensComment_35 (by decide) ?_
            refine lv_goto (tgt := 40) hx hb dX11_opensComment_36 (by decide) ?_
            rw [hQ]
            exact W.zret (v := 1) hx hb hr (jb_nz (Or.inr rfl)) (fun t ht hW => ⟨⟨1, (), rfl, ⟨(Or.inr rfl), by first | omega | rfl | assumption | decide | exact Or.inl rfl | exact Or.inr rfl | (simp only; omega)⟩, hh.rt (M1 := []) [] rfl ht⟩, by rw [ht]; try exact hh.1.1, fun q h9 hq => by rw [ht]; try exact hh.1.2.1 q h9 hq⟩) hh.1.2.2 dX11_opensComment_40
set_option maxHeartbeats 4000000 in
set_option maxRecDepth 20000 in
theorem uX11_commentEndt9 (l : Launch) (dC : Nat → ClassId) (dI : Nat → Nat → Nat) (ca : Nat → ClassId) (base : Nat) (B : jF) (hB : jBok B) (hAp : jAp (dC, dI)) (hB101 : ∀ n G a H, B 101 n G a H ↔ jAr (dC, dI) (ca 1) (fun j z => True) n a H) (hB173 : ∀ n G a H, B 173 n G a H ↔ jAr (dC, dI) (ca 1) (fun j z => True) n a H) (G0 : jT) (H0 : Heap) (r0 : Nat) (a1 : Int32) (a2 : Int32) (n0 : Nat) : Met l yX11_commentEnd (jw yX11_commentEnd cX11_commentEnd 5 (some .int)) ({ frames := 1, cells := 0, slots := 0, locals := 22 }) (va_Pc [.ref r0, .int a1, .int a2] (fun U => U.heap = H0 ∧ jX B base G0 [] H0 ∧ jG dC dI ca base U ∧ G0 r0 = some (173, n0) ∧ jP (dC, dI) G0 H0 [] ∧ n0 < 1000000 ∧ a1.toInt ≤ 1000000)) (va_Qi (S := Unit) (fun r u => (r.toInt = -1 ∨ (a1.toInt + 4 ≤ r.toInt ∧ r.toInt ≤ a2.toInt))) (fun u t => jRt (dC, dI) B base G0 EX11_commentEndt9 H0 [] t.heap) (jA base)) 0 0 (jA base) := by
  refine Met.ofW (cc := cX11_commentEnd) (maxL := 5) (ret := (some .int)) (by decide) rfl ?_
  intro p e s m args below meth c s₁ Bd hml hv
  obtain ⟨rfl, hH0, hX, hG, hg_r0, hP0, hp0, hp1⟩ := hv
  have hK := hG.1
  have hx := Bd.exec
  have hb := Bd.bytes
  have hr := Bd.returns
  have hts := atoms_spec (ws := (jw yX11_commentEnd cX11_commentEnd 5 (some .int))) Bd.pre
  have htw : ∀ w ∈ jWl, w.before _ s = true := fun w h => hts w (List.mem_cons_of_mem _ h)
  have hown : s.vm.findClass RX11 = some m.cls := findClass_of_methodNamed Bd.named
  have hlocks := Bd.notSynchronized
  obtain ⟨Q, hQ⟩ : ∃ Q, Q = MQ below (va_Qi (S := Unit) (fun r u => (r.toInt = -1 ∨ (a1.toInt + 4 ≤ r.toInt ∧ r.toInt ≤ a2.toInt))) (fun u t => jRt (dC, dI) B base G0 EX11_commentEndt9 H0 [] t.heap) (jA base)) ([.ref r0, .int a1, .int a2] : List Value).toArray s 0 0 (jA base) := ⟨_, rfl⟩
  rw [← hQ]
  have hl := lv_entry ([.ref r0, .int a1, .int a2]) (n := 5) (Nat.le_of_ble_eq_true rfl)
  rw [lg_entry_eq]
  generalize (lg_sl ([.ref r0, .int a1, .int a2]) ++ List.replicate (5 - (lg_sl ([.ref r0, .int a1, .int a2])).length) Slot.unset).toArray = ls at hl ⊢
  have hl : lv_has ls 5 [(0, .ref r0), (1, .int a1), (2, .int a2)] := hl
  generalize hR : (headSpec (jw yX11_commentEnd cX11_commentEnd 5 (some .int)) ({ frames := 1, cells := 0, slots := 0, locals := 22 })).room = R
  subst hH0
  have hh : jSt (dC, dI) B base G0 G0 EX11_commentEndt9 s.heap 0 0 [] [] [] s.heap [] := jSt.start hX hP0 jMc.nil jIs.nil
  clear hX hP0
  have hkm1 : ((-1) : Int32).toInt = (-1) := by decide
  have hk0 : (0 : Int32).toInt = 0 := by decide
  have hk1 : (1 : Int32).toInt = 1 := by decide
  have hk2 : (2 : Int32).toInt = 2 := by decide
  have hk40 : (40 : Int32).toInt = 40 := by decide
  have hk41 : (41 : Int32).toInt = 41 := by decide
  have hk42 : (42 : Int32).toInt = 42 := by decide
  have hrg_a1 := jb_rng a1
  have hrg_a2 := jb_rng a2
  refine lv_aload_n hx hb dX11_commentEnd_0 rfl (lv_at hl 0 rfl) ?_
  refine lv_iload_n hx hb dX11_commentEnd_1 rfl (lv_at hl 1 rfl) ?_
  refine lv_iload_n hx hb dX11_commentEnd_2 rfl (lv_at hl 2 rfl) ?_
  refine va_calli (A0 := jA base) (H0 := s.heap) (va_runS (As := [.ref r0, .int a1, .int a2]) (rest := []) ⟨hx, hb, hml, hown, hts⟩ (uX11_opensCommentt9 l dC dI ca base B hB hAp hB173 G0 s.heap r0 a1 a2 n0) (va_cwS 3 hts (jgS (jWr_36 _ (List.mem_of_getElem? (i := 12) rfl)) (jWr_36 _ (List.mem_of_getElem? (i := 13) rfl)) (jWr_1 _ (List.mem_of_getElem? (i := 2) rfl)) (jWr_36 _ (List.mem_of_getElem? (i := 14) rfl))) rfl rfl rfl (by decide +kernel) ⟨by rw [← hR]; exact Nat.le_of_ble_eq_true rfl, by rw [← hR]; exact Nat.le_of_ble_eq_true rfl⟩) ⟨fun a U g mk q => by obtain ⟨q0, q1, q2, qK, q10, q11, q12⟩ := q; exact ⟨q0, q1, q2, jG.calling g mk a qK, q10, q11, q12⟩, fun U hU hW => ⟨rfl, hU, hh.2.1, hG.step hW hU hh.1, hg_r0, jP.nil, by first | omega | (refine ⟨?_, ?_⟩ <;> (first | omega | rfl | assumption | decide | exact Or.inl rfl | exact Or.inr rfl | (simp only; omega)))⟩⟩ rfl rfl hl.1 rfl (lv_room (Nat.le_of_ble_eq_true rfl)) dX11_commentEnd_3 ⟨Nat.zero_le _, Nat.zero_le _⟩) hh.1 (fun q _ h => h) (fun q h => h) (fun r_2 u_1 t_1 H_1 locs_1 ht_1 hvm_1 hr_2 hb_1 hz_1 hk_1 hS_1 => ?_)
  rw [ht_1] at hb_1
  obtain ⟨hb_11, hb_12, hb_13, hb_14, hb_15⟩ := hb_1
  have hh_1 : jSt (dC, dI) B base G0 G0 EX11_commentEndt9 s.heap 0 0 [] [] [] H_1 locs_1 := ((hh.call hb_11 hb_12 hb_13 hb_14 hS_1 rfl (L1 := []) [] rfl rfl (M1 := []) [] rfl rfl (I1 := []) [] rfl rfl).more hb_15)
  clear hh ht_1 hvm_1 hz_1 hk_1 hS_1 hb_11 hb_12 hb_13 hb_14 hb_15
  obtain ⟨hr_2b, hr_2p⟩ := hr_2
  have hr_2' := jb_01 hr_2b
  refine lv_if_ne (tgt := 11) hx hb dX11_commentEnd_6 (by decide) (fun c_3 => ?_) (fun c_3 => ?_)
  · skip
    have c_3' : r_2.toInt ≠ 0 := jb_ne (rfl) ((by decide)) c_3
    first | (have hr_2pq := hr_2p.resolve_left (by omega); clear hr_2p) | (have hr_2pq := hr_2p.resolve_right (by omega); clear hr_2p) | try clear hr_2p
    refine lv_iconst (v := 1) hx hb dX11_commentEnd_11 (by decide) ?_
    refine lv_istore_n (lv' := [(3, .int 1), (0, .ref r0), (1, .int a1), (2, .int a2)]) hx hb dX11_commentEnd_12 rfl hl (by decide) rfl (fun ls hl => ?_)
    refine lv_iload_n hx hb dX11_commentEnd_13 rfl (lv_at hl 2 rfl) ?_
    refine lv_iconst (v := 2) hx hb dX11_commentEnd_14 (by decide) ?_
    refine lv_iadd hx hb dX11_commentEnd_15 ?_
    refine lv_topi (fun z_4 ez_4 => ?_)
    have hz_4 : z_4.toInt = a1.toInt + 2 := by rw [ez_4]; exact jb_iadd2 (rfl) ((by decide)) (by omega)
    refine lv_istore (lv' := [(4, .int z_4), (3, .int 1), (0, .ref r0), (1, .int a1), (2, .int a2)]) hx hb dX11_commentEnd_16 hl (by decide) rfl (fun ls hl => ?_)
    have L18 : ∀ (N : Nat) (v3_5 : Int32) (v4_5 : Int32) (H_5 : Heap) (locs_5 : List Loc), jSt (dC, dI) B base G0 G0 EX11_commentEndt9 s.heap 0 0 [] [] [] H_5 locs_5 → (a1.toInt + 2 ≤ v4_5.toInt ∧ v4_5.toInt ≤ a2.toInt + 2 ∧ 1 ≤ v3_5.toInt ∧ v3_5.toInt ≤ v4_5.toInt) → (((a2.toInt - v4_5.toInt).toNat : Int) : Int) < N → ∀ ls : Array Slot, lv_has ls 5 [(0, .ref r0), (1, .int a1), (2, .int a2), (3, .int v3_5), (4, .int v4_5)] → W p l e R s m ([.ref r0, .int a1, .int a2] : List Value).toArray below meth c H_5 locs_5 0 0 Q (F0 m 18 ls []) := by
      intro N
      induction N with
      | zero => intro v3_5 v4_5 H_5 locs_5 hh_5  hi_5 hm; exact absurd hm (by omega)
      | succ N L18 =>
        intro v3_5 v4_5 H_5 locs_5 hh_5  hi_5 hm_5 ls hl
        obtain ⟨hi_5_0, hi_5_1, hi_5_2, hi_5_3⟩ := hi_5
        refine lv_iload hx hb dX11_commentEnd_18 (lv_at hl 4 rfl) ?_
        refine lv_iconst (v := 1) hx hb dX11_commentEnd_20 (by decide) ?_
        refine lv_iadd hx hb dX11_commentEnd_21 ?_
        refine lv_topi (fun z_6 ez_6 => ?_)
        have hz_6 : z_6.toInt = v4_5.toInt + 1 := by rw [ez_6]; exact jb_iadd2 (rfl) ((by decide)) (by omega)
        refine lv_iload_n hx hb dX11_commentEnd_22 rfl (lv_at hl 2 rfl) ?_
        refine lv_icmp_ge (tgt := 96) hx hb dX11_commentEnd_23 (by decide) (fun c_7 => ?_) (fun c_7 => ?_)
        · skip
          have c_7' : z_6.toInt ≥ a2.toInt := jb_ge (rfl) (rfl) c_7
          refine lv_iconst (v := (-1)) hx hb dX11_commentEnd_96 (by decide) ?_
          rw [hQ]
          exact W.iret (v := (-1)) hx hb hr (fun t ht hW => ⟨⟨(-1), (), rfl, by first | omega | rfl | assumption | decide | exact Or.inl rfl | exact Or.inr rfl | (simp only; omega), hh_5.rt (M1 := []) [] rfl ht⟩, by rw [ht]; try exact hh_5.1.1, fun q h9 hq => by rw [ht]; try exact hh_5.1.2.1 q h9 hq⟩) hh_5.1.2.2 dX11_commentEnd_97
        · skip
          have c_7' : z_6.toInt < a2.toInt := jb_ge_n (rfl) (rfl) c_7
          refine lv_aload_n hx hb dX11_commentEnd_26 rfl (lv_at hl 0 rfl) ?_
          refine lv_iload hx hb dX11_commentEnd_27 (lv_at hl 4 rfl) ?_
          refine j7_iald hx hb hK hh_5 hB173 1 rfl (by decide) hg_r0 (x := v4_5.toInt) (rfl) (by omega) dX11_commentEnd_29 (fun z_8 (hz_8 : True) => ?_)
          refine lv_bipush (v := 40) hx hb dX11_commentEnd_30 (by decide) ?_
          refine lv_icmp_ne (tgt := 55) hx hb dX11_commentEnd_32 (by decide) (fun c_9 => ?_) (fun c_9 => ?_)
          · skip
            have c_9' : z_8.toInt ≠ 40 := jb_ne (rfl) ((by decide)) c_9
            refine lv_aload_n hx hb dX11_commentEnd_55 rfl (lv_at hl 0 rfl) ?_
            refine lv_iload hx hb dX11_commentEnd_56 (lv_at hl 4 rfl) ?_
            refine j7_iald hx hb hK hh_5 hB173 1 rfl (by decide) hg_r0 (x := v4_5.toInt) (rfl) (by omega) dX11_commentEnd_58 (fun z_10 (hz_10 : True) => ?_)
            refine lv_bipush (v := 42) hx hb dX11_commentEnd_59 (by decide) ?_
            refine lv_icmp_ne (tgt := 90) hx hb dX11_commentEnd_61 (by decide) (fun c_11 => ?_) (fun c_11 => ?_)
            · skip
              have c_11' : z_10.toInt ≠ 42 := jb_ne (rfl) ((by decide)) c_11
              obtain ⟨z_12, ez_12⟩ : ∃ y : Int32, y = v4_5 + 1 := ⟨_, rfl⟩
              refine lv_iinc (v := z_12) (lv' := [(4, .int z_12), (0, .ref r0), (1, .int a1), (2, .int a2), (3, .int v3_5)]) hx hb dX11_commentEnd_90 hl (k := 4) rfl (by rw [ez_12]; rfl) (by decide) rfl (fun ls hl => ?_)
              have hz_12 : z_12.toInt = v4_5.toInt + 1 := by rw [ez_12]; exact jb_iadd2 (rfl) (by decide) (by omega)
              refine lv_goto (tgt := 18) hx hb dX11_commentEnd_93 (by decide) ?_
              exact L18 v3_5 z_12 _ _ hh_5 (by first | omega | (refine ⟨?_, ?_, ?_, ?_⟩ <;> (first | omega | rfl | assumption | decide | exact Or.inl rfl | exact Or.inr rfl | (simp only; omega)))) (by omega) _ (lv_sub hl [1, 2, 3, 4, 0] rfl)
            · skip
              have c_11' : z_10.toInt = 42 := jb_ne_n (rfl) ((by decide)) c_11
              refine lv_aload_n hx hb dX11_commentEnd_64 rfl (lv_at hl 0 rfl) ?_
              refine lv_iload hx hb dX11_commentEnd_65 (lv_at hl 4 rfl) ?_
              refine lv_iconst (v := 1) hx hb dX11_commentEnd_67 (by decide) ?_
              refine lv_iadd hx hb dX11_commentEnd_68 ?_
              refine lv_topi (fun z_13 ez_13 => ?_)
              have hz_13 : z_13.toInt = v4_5.toInt + 1 := by rw [ez_13]; exact jb_iadd2 (rfl) ((by decide)) (by omega)
              refine j7_iald hx hb hK hh_5 hB173 1 rfl (by decide) hg_r0 (x := z_13.toInt) (rfl) (by omega) dX11_commentEnd_69 (fun z_14 (hz_14 : True) => ?_)
              refine lv_bipush (v := 41) hx hb dX11_commentEnd_70 (by decide) ?_
              refine lv_icmp_ne (tgt := 90) hx hb dX11_commentEnd_72 (by decide) (fun c_15 => ?_) (fun c_15 => ?_)
              · skip
                have c_15' : z_14.toInt ≠ 41 := jb_ne (rfl) ((by decide)) c_15
                obtain ⟨z_16, ez_16⟩ : ∃ y : Int32, y = v4_5 + 1 := ⟨_, rfl⟩
                refine lv_iinc (v := z_16) (lv' := [(4, .int z_16), (0, .ref r0), (1, .int a1), (2, .int a2), (3, .int v3_5)]) hx hb dX11_commentEnd_90 hl (k := 4) rfl (by rw [ez_16]; rfl) (by decide) rfl (fun ls hl => ?_)
                have hz_16 : z_16.toInt = v4_5.toInt + 1 := by rw [ez_16]; exact jb_iadd2 (rfl) (by decide) (by omega)
                refine lv_goto (tgt := 18) hx hb dX11_commentEnd_93 (by decide) ?_
                exact L18 v3_5 z_16 _ _ hh_5 (by first | omega | (refine ⟨?_, ?_, ?_, ?_⟩ <;> (first | omega | rfl | assumption | decide | exact Or.inl rfl | exact Or.inr rfl | (simp only; omega)))) (by omega) _ (lv_sub hl [1, 2, 3, 4, 0] rfl)
              · skip
                have c_15' : z_14.toInt = 41 := jb_ne_n (rfl) ((by decide)) c_15
                obtain ⟨z_17, ez_17⟩ : ∃ y : Int32, y = v3_5 + (-1) := ⟨_, rfl⟩
                refine lv_iinc (v := z_17) (lv' := [(3, .int z_17), (0, .ref r0), (1, .int a1), (2, .int a2), (4, .int v4_5)]) hx hb dX11_commentEnd_75 hl (k := 3) rfl (by rw [ez_17]; rfl) (by decide) rfl (fun ls hl => ?_)
                have hz_17 : z_17.toInt = v3_5.toInt + (-1) := by rw [ez_17]; exact jb_iadd2 (rfl) (by decide) (by omega)
                obtain ⟨z_18, ez_18⟩ : ∃ y : Int32, y = v4_5 + 1 := ⟨_, rfl⟩
                refine lv_iinc (v := z_18) (lv' := [(4, .int z_18), (3, .int z_17), (0, .ref r0), (1, .int a1), (2, .int a2)]) hx hb dX11_commentEnd_78 hl (k := 4) rfl (by rw [ez_18]; rfl) (by decide) rfl (fun ls hl => ?_)
                have hz_18 : z_18.toInt = v4_5.toInt + 1 := by rw [ez_18]; exact jb_iadd2 (rfl) (by decide) (by omega)
                refine lv_iload_n hx hb dX11_commentEnd_81 rfl (lv_at hl 1 rfl) ?_
                refine lv_if_ne (tgt := 90) hx hb dX11_commentEnd_82 (by decide) (fun c_19 => ?_) (fun c_19 => ?_)
                · skip
                  have c_19' : z_17.toInt ≠ 0 := jb_ne (rfl) ((by decide)) c_19
                  obtain ⟨z_20, ez_20⟩ : ∃ y : Int32, y = z_18 + 1 := ⟨_, rfl⟩
                  refine lv_iinc (v := z_20) (lv' := [(4, .int z_20), (3, .int z_17), (0, .ref r0), (1, .int a1), (2, .int a2)]) hx hb dX11_commentEnd_90 hl (k := 0) rfl (by rw [ez_20]; rfl) (by decide) rfl (fun ls hl => ?_)
                  have hz_20 : z_20.toInt = z_18.toInt + 1 := by rw [ez_20]; exact jb_iadd2 (rfl) (by decide) (by omega)
                  refine lv_goto (tgt := 18) hx hb dX11_commentEnd_93 (by decide) ?_
                  exact L18 z_17 z_20 _ _ hh_5 (by first | omega | (refine ⟨?_, ?_, ?_, ?_⟩ <;> (first | omega | rfl | assumption | decide | exact Or.inl rfl | exact Or.inr rfl | (simp only; omega)))) (by omega) _ (lv_sub hl [2, 3, 4, 1, 0] rfl)
                · skip
                  have c_19' : z_17.toInt = 0 := jb_ne_n (rfl) ((by decide)) c_19
                  refine lv_iload hx hb dX11_commentEnd_85 (lv_at hl 0 rfl) ?_
                  refine lv_iconst (v := 1) hx hb dX11_commentEnd_87 (by decide) ?_
                  refine lv_iadd hx hb dX11_commentEnd_88 ?_
                  refine lv_topi (fun z_21 ez_21 => ?_)
                  have hz_21 : z_21.toInt = z_18.toInt + 1 := by rw [ez_21]; exact jb_iadd2 (rfl) ((by decide)) (by omega)
                  rw [hQ]
                  exact W.iret (v := z_21) hx hb hr (fun t ht hW => ⟨⟨z_21, (), rfl, by first | omega | rfl | assumption | decide | exact Or.inl rfl | exact Or.inr rfl | (simp only; omega), hh_5.rt (M1 := []) [] rfl ht⟩, by rw [ht]; try exact hh_5.1.1, fun q h9 hq => by rw [ht]; try exact hh_5.1.2.1 q h9 hq⟩) hh_5.1.2.2 dX11_commentEnd_89
          · skip
            have c_9' : z_8.toInt = 40 := jb_ne_n (rfl) ((by decide)) c_9
            refine lv_aload_n hx hb dX11_commentEnd_35 rfl (lv_at hl 0 rfl) ?_
            refine lv_iload hx hb dX11_commentEnd_36 (lv_at hl 4 rfl) ?_
            refine lv_iconst (v := 1) hx hb dX11_commentEnd_38 (by decide) ?_
            refine lv_iadd hx hb dX11_commentEnd_39 ?_
            refine lv_topi (fun z_22 ez_22 => ?_)
            have hz_22 : z_22.toInt = v4_5.toInt + 1 := by rw [ez_22]; exact jb_iadd2 (rfl) ((by decide)) (by omega)
            refine j7_iald hx hb hK hh_5 hB173 1 rfl (by decide) hg_r0 (x := z_22.toInt) (rfl) (by omega) dX11_commentEnd_40 (fun z_23 (hz_23 : True) => ?_)
            refine lv_bipush (v := 42) hx hb dX11_commentEnd_41 (by decide) ?_
            refine lv_icmp_ne (tgt := 55) hx hb dX11_commentEnd_43 (by decide) (fun c_24 => ?_) (fun c_24 => ?_)
            · skip
              have c_24' : z_23.toInt ≠ 42 := jb_ne (rfl) ((by decide)) c_24
              refine lv_aload_n hx hb dX11_commentEnd_55 rfl (lv_at hl 0 rfl) ?_
              refine lv_iload hx hb dX11_commentEnd_56 (lv_at hl 4 rfl) ?_
              refine j7_iald hx hb hK hh_5 hB173 1 rfl (by decide) hg_r0 (x := v4_5.toInt) (rfl) (by omega) dX11_commentEnd_58 (fun z_25 (hz_25 : True) => ?_)
              refine lv_bipush (v := 42) hx hb dX11_commentEnd_59 (by decide) ?_
              refine lv_icmp_ne (tgt := 90) hx hb dX11_commentEnd_61 (by decide) (fun c_26 => ?_) (fun c_26 => ?_)
              · skip
                have c_26' : z_25.toInt ≠ 42 := jb_ne (rfl) ((by decide)) c_26
                obtain ⟨z_27, ez_27⟩ : ∃ y : Int32, y = v4_5 + 1 := ⟨_, rfl⟩
                refine lv_iinc (v := z_27) (lv' := [(4, .int z_27), (0, .ref r0), (1, .int a1), (2, .int a2), (3, .int v3_5)]) hx hb dX11_commentEnd_90 hl (k := 4) rfl (by rw [ez_27]; rfl) (by decide) rfl (fun ls hl => ?_)
                have hz_27 : z_27.toInt = v4_5.toInt + 1 := by rw [ez_27]; exact jb_iadd2 (rfl) (by decide) (by omega)
                refine lv_goto (tgt := 18) hx hb dX11_commentEnd_93 (by decide) ?_
                exact L18 v3_5 z_27 _ _ hh_5 (by first | omega | (refine ⟨?_, ?_, ?_, ?_⟩ <;> (first | omega | rfl | assumption | decide | exact Or.inl rfl | exact Or.inr rfl | (simp only; omega)))) (by omega) _ (lv_sub hl [1, 2, 3, 4, 0] rfl)
              · skip
                have c_26' : z_25.toInt = 42 := jb_ne_n (rfl) ((by decide)) c_26
                refine lv_aload_n hx hb dX11_commentEnd_64 rfl (lv_at hl 0 rfl) ?_
                refine lv_iload hx hb dX11_commentEnd_65 (lv_at hl 4 rfl) ?_
                refine lv_iconst (v := 1) hx hb dX11_commentEnd_67 (by decide) ?_
                refine lv_iadd hx hb dX11_commentEnd_68 ?_
                refine lv_topi (fun z_28 ez_28 => ?_)
                have hz_28 : z_28.toInt = v4_5.toInt + 1 := by rw [ez_28]; exact jb_iadd2 (rfl) ((by decide)) (by omega)
                refine j7_iald hx hb hK hh_5 hB173 1 rfl (by decide) hg_r0 (x := z_28.toInt) (rfl) (by omega) dX11_commentEnd_69 (fun z_29 (hz_29 : True) => ?_)
                refine lv_bipush (v := 41) hx hb dX11_commentEnd_70 (by decide) ?_
                refine lv_icmp_ne (tgt := 90) hx hb dX11_commentEnd_72 (by decide) (fun c_30 => ?_) (fun c_30 => ?_)
                · skip
                  have c_30' : z_29.toInt ≠ 41 := jb_ne (rfl) ((by decide)) c_30
                  obtain ⟨z_31, ez_31⟩ : ∃ y : Int32, y = v4_5 + 1 := ⟨_, rfl⟩
                  refine lv_iinc (v := z_31) (lv' := [(4, .int z_31), (0, .ref r0), (1, .int a1), (2, .int a2), (3, .int v3_5)]) hx hb dX11_commentEnd_90 hl (k := 4) rfl (by rw [ez_31]; rfl) (by decide) rfl (fun ls hl => ?_)
                  have hz_31 : z_31.toInt = v4_5.toInt + 1 := by rw [ez_31]; exact jb_iadd2 (rfl) (by decide) (by omega)
                  refine lv_goto (tgt := 18) hx hb dX11_commentEnd_93 (by decide) ?_
                  exact L18 v3_5 z_31 _ _ hh_5 (by first | omega | (refine ⟨?_, ?_, ?_, ?_⟩ <;> (first | omega | rfl | assumption | decide | exact Or.inl rfl | exact Or.inr rfl | (simp only; omega)))) (by omega) _ (lv_sub hl [1, 2, 3, 4, 0] rfl)
                · skip
                  have c_30' : z_29.toInt = 41 := jb_ne_n (rfl) ((by decide)) c_30
                  obtain ⟨z_32, ez_32⟩ : ∃ y : Int32, y = v3_5 + (-1) := ⟨_, rfl⟩
                  refine lv_iinc (v := z_32) (lv' := [(3, .int z_32), (0, .ref r0), (1, .int a1), (2, .int a2), (4, .int v4_5)]) hx hb dX11_commentEnd_75 hl (k := 3) rfl (by rw [ez_32]; rfl) (by decide) rfl (fun ls hl => ?_)
                  have hz_32 : z_32.toInt = v3_5.toInt + (-1) := by rw [ez_32]; exact jb_iadd2 (rfl) (by decide) (by omega)
                  obtain ⟨z_33, ez_33⟩ : ∃ y : Int32, y = v4_5 + 1 := ⟨_, rfl⟩
                  refine lv_iinc (v := z_33) (lv' := [(4, .int z_33), (3, .int z_32), (0, .ref r0), (1, .int a1), (2, .int a2)]) hx hb dX11_commentEnd_78 hl (k := 4) rfl (by rw [ez_33]; rfl) (by decide) rfl (fun ls hl => ?_)
                  have hz_33 : z_33.toInt = v4_5.toInt + 1 := by rw [ez_33]; exact jb_iadd2 (rfl) (by decide) (by omega)
                  refine lv_iload_n hx hb dX11_commentEnd_81 rfl (lv_at hl 1 rfl) ?_
                  refine lv_if_ne (tgt := 90) hx hb dX11_commentEnd_82 (by decide) (fun c_34 => ?_) (fun c_34 => ?_)
                  · skip
                    have c_34' : z_32.toInt ≠ 0 := jb_ne (rfl) ((by decide)) c_34
                    obtain ⟨z_35, ez_35⟩ : ∃ y : Int32, y = z_33 + 1 := ⟨_, rfl⟩
                    refine lv_iinc (v := z_35) (lv' := [(4, .int z_35), (3, .int z_32), (0, .ref r0), (1, .int a1), (2, .int a2)]) hx hb dX11_commentEnd_90 hl (k := 0) rfl (by rw [ez_35]; rfl) (by decide) rfl (fun ls hl => ?_)
                    have hz_35 : z_35.toInt = z_33.toInt + 1 := by rw [ez_35]; exact jb_iadd2 (rfl) (by decide) (by omega)
                    refine lv_goto (tgt := 18) hx hb dX11_commentEnd_93 (by decide) ?_
                    exact L18 z_32 z_35 _ _ hh_5 (by first | omega | (refine ⟨?_, ?_, ?_, ?_⟩ <;> (first | omega | rfl | assumption | decide | exact Or.inl rfl | exact Or.inr rfl | (simp only; omega)))) (by omega) _ (lv_sub hl [2, 3, 4, 1, 0] rfl)
                  · skip
                    have c_34' : z_32.toInt = 0 := jb_ne_n (rfl) ((by decide)) c_34
                    refine lv_iload hx hb dX11_commentEnd_85 (lv_at hl 0 rfl) ?_
                    refine lv_iconst (v := 1) hx hb dX11_commentEnd_87 (by decide) ?_
                    refine lv_iadd hx hb dX11_commentEnd_88 ?_
                    refine lv_topi (fun z_36 ez_36 => ?_)
                    have hz_36 : z_36.toInt = z_33.toInt + 1 := by rw [ez_36]; exact jb_iadd2 (rfl) ((by decide)) (by omega)
                    rw [hQ]
                    exact W.iret (v := z_36) hx hb hr (fun t ht hW => ⟨⟨z_36, (), rfl, by first | omega | rfl | assumption | decide | exact Or.inl rfl | exact Or.inr rfl | (simp only; omega), hh_5.rt (M1 := []) [] rfl ht⟩, by rw [ht]; try exact hh_5.1.1, fun q h9 hq => by rw [ht]; try exact hh_5.1.2.1 q h9 hq⟩) hh_5.1.2.2 dX11_commentEnd_89
            · skip
              have c_24' : z_23.toInt = 42 := jb_ne_n (rfl) ((by decide)) c_24
              obtain ⟨z_37, ez_37⟩ : ∃ y : Int32, y = v3_5 + 1 := ⟨_, rfl⟩
              refine lv_iinc (v := z_37) (lv' := [(3, .int z_37), (0, .ref r0), (1, .int a1), (2, .int a2), (4, .int v4_5)]) hx hb dX11_commentEnd_46 hl (k := 3) rfl (by rw [ez_37]; rfl) (by decide) rfl (fun ls hl => ?_)
              have hz_37 : z_37.toInt = v3_5.toInt + 1 := by rw [ez_37]; exact jb_iadd2 (rfl) (by decide) (by omega)
              obtain ⟨z_38, ez_38⟩ : ∃ y : Int32, y = v4_5 + 1 := ⟨_, rfl⟩
              refine lv_iinc (v := z_38) (lv' := [(4, .int z_38), (3, .int z_37), (0, .ref r0), (1, .int a1), (2, .int a2)]) hx hb dX11_commentEnd_49 hl (k := 4) rfl (by rw [ez_38]; rfl) (by decide) rfl (fun ls hl => ?_)
              have hz_38 : z_38.toInt = v4_5.toInt + 1 := by rw [ez_38]; exact jb_iadd2 (rfl) (by decide) (by omega)
              refine lv_goto (tgt := 90) hx hb dX11_commentEnd_52 (by decide) ?_
              obtain ⟨z_39, ez_39⟩ : ∃ y : Int32, y = z_38 + 1 := ⟨_, rfl⟩
              refine lv_iinc (v := z_39) (lv' := [(4, .int z_39), (3, .int z_37), (0, .ref r0), (1, .int a1), (2, .int a2)]) hx hb dX11_commentEnd_90 hl (k := 0) rfl (by rw [ez_39]; rfl) (by decide) rfl (fun ls hl => ?_)
              have hz_39 : z_39.toInt = z_38.toInt + 1 := by rw [ez_39]; exact jb_iadd2 (rfl) (by decide) (by omega)
              refine lv_goto (tgt := 18) hx hb dX11_commentEnd_93 (by decide) ?_
              exact L18 z_37 z_39 _ _ hh_5 (by first | omega | (refine ⟨?_, ?_, ?_, ?_⟩ <;> (first | omega | rfl | assumption | decide | exact Or.inl rfl | exact Or.inr rfl | (simp only; omega)))) (by omega) _ (lv_sub hl [2, 3, 4, 1, 0] rfl)
    exact L18 (((a2.toInt - (z_4 : Int32).toInt).toNat : Int) : Int).toNat.succ 1 z_4 _ _ hh_1 (by first | omega | (refine ⟨?_, ?_, ?_, ?_⟩ <;> (first | omega | rfl | assumption | decide | exact Or.inl rfl | exact Or.inr rfl | (simp only; omega)))) (by omega) _ (lv_sub hl [2, 3, 4, 1, 0] rfl)
  · skip
    have c_3' : r_2.toInt = 0 := jb_ne_n (rfl) ((by decide)) c_3
    first | (have hr_2pq := hr_2p.resolve_left (by omega); clear hr_2p) | (have hr_2pq := hr_2p.resolve_right (by omega); clear hr_2p) | try clear hr_2p
    refine lv_iconst (v := (-1)) hx hb dX11_commentEnd_9 (by decide) ?_
    rw [hQ]
    exact W.iret (v := (-1)) hx hb hr (fun t ht hW => ⟨⟨(-1), (), rfl, by first | omega | rfl | assumption | decide | exact Or.inl rfl | exact Or.inr rfl | (simp only; omega), hh_1.rt (M1 := []) [] rfl ht⟩, by rw [ht]; try exact hh_1.1.1, fun q h9 hq => by rw [ht]; try exact hh_1.1.2.1 q h9 hq⟩) hh_1.1.2.2 dX11_commentEnd_10
end
section
theorem dX1_decode_0 : decode cX1_decode 0 = .ok (.aload_n 0, 1) := by decide +kernel
theorem dX1_decode_1 : decode cX1_decode 1 = .ok (.iconst 0, 1) := by decide +kernel
theorem dX1_decode_2 : decode cX1_decode 2 = .ok (.putfield 42, 3) := by decide +kernel
theorem dX1_decode_5 : decode cX1_decode 5 = .ok (.iconst 0, 1) := by decide +kernel
theorem dX1_decode_6 : decode cX1_decode 6 = .ok (.istore_n 3, 1) := by decide +kernel
theorem dX1_decode_7 : decode cX1_decode 7 = .ok (.iconst 0, 1) := by decide +kernel
theorem dX1_decode_8 : decode cX1_decode 8 = .ok (.istore 4, 2) := by decide +kernel
theorem dX1_decode_10 : decode cX1_decode 10 = .ok (.iload 4, 2) := by decide +kernel
theorem dX1_decode_12 : decode cX1_decode 12 = .ok (.iload_n 2, 1) := by decide +kernel
theorem dX1_decode_13 : decode cX1_decode 13 = .ok (.if_icmp .ge 152, 3) := by decide +kernel
theorem dX1_decode_16 : decode cX1_decode 16 = .ok (.iload_n 3, 1) := by decide +kernel
theorem dX1_decode_17 : decode cX1_decode 17 = .ok (.iload_n 2, 1) := by decide +kernel
theorem dX1_decode_18 : decode cX1_decode 18 = .ok (.if_icmp .ge 147, 3) := by decide +kernel
theorem dX1_decode_21 : decode cX1_decode 21 = .ok (.aload_n 1, 1) := by decide +kernel
theorem dX1_decode_22 : decode cX1_decode 22 = .ok (.iload_n 3, 1) := by decide +kernel
theorem dX1_decode_23 : decode cX1_decode 23 = .ok (.iload_n 2, 1) := by decide +kernel
theorem dX1_decode_24 : decode cX1_decode 24 = .ok (.invokestatic 56, 3) := by decide +kernel
theorem dX1_decode_27 : decode cX1_decode 27 = .ok (.istore 5, 2) := by decide +kernel
theorem dX1_decode_29 : decode cX1_decode 29 = .ok (.iload_n 3, 1) := by decide +kernel
theorem dX1_decode_30 : decode cX1_decode 30 = .ok (.iload 5, 2) := by decide +kernel
theorem dX1_decode_32 : decode cX1_decode 32 = .ok (.ifCond .ge 7, 3) := by decide +kernel
theorem dX1_decode_35 : decode cX1_decode 35 = .ok (.iconst 1, 1) := by decide +kernel
theorem dX1_decode_36 : decode cX1_decode 36 = .ok (.goto 8, 3) := by decide +kernel
theorem dX1_decode_39 : decode cX1_decode 39 = .ok (.iload 5, 2) := by decide +kernel
theorem dX1_decode_41 : decode cX1_decode 41 = .ok (.invokestatic 62, 3) := by decide +kernel
theorem dX1_decode_44 : decode cX1_decode 44 = .ok (.iadd, 1) := by decide +kernel
theorem dX1_decode_45 : decode cX1_decode 45 = .ok (.istore_n 3, 1) := by decide +kernel
theorem dX1_decode_46 : decode cX1_decode 46 = .ok (.iload 5, 2) := by decide +kernel
theorem dX1_decode_48 : decode cX1_decode 48 = .ok (.ldc 65, 2) := by decide +kernel
theorem dX1_decode_50 : decode cX1_decode 50 = .ok (.if_icmp .lt 7, 3) := by decide +kernel
theorem dX1_decode_53 : decode cX1_decode 53 = .ok (.iconst 2, 1) := by decide +kernel
theorem dX1_decode_54 : decode cX1_decode 54 = .ok (.goto 4, 3) := by decide +kernel
theorem dX1_decode_57 : decode cX1_decode 57 = .ok (.iconst 1, 1) := by decide +kernel
theorem dX1_decode_58 : decode cX1_decode 58 = .ok (.istore 6, 2) := by decide +kernel
theorem dX1_decode_60 : decode cX1_decode 60 = .ok (.aload_n 0, 1) := by decide +kernel
theorem dX1_decode_61 : decode cX1_decode 61 = .ok (.getfield 42, 3) := by decide +kernel
theorem dX1_decode_64 : decode cX1_decode 64 = .ok (.iload 6, 2) := by decide +kernel
theorem dX1_decode_66 : decode cX1_decode 66 = .ok (.iadd, 1) := by decide +kernel
theorem dX1_decode_67 : decode cX1_decode 67 = .ok (.sipush 1500, 3) := by decide +kernel
theorem dX1_decode_70 : decode cX1_decode 70 = .ok (.if_icmp .le 5, 3) := by decide +kernel
theorem dX1_decode_73 : decode cX1_decode 73 = .ok (.iconst 0, 1) := by decide +kernel
theorem dX1_decode_74 : decode cX1_decode 74 = .ok (.ireturn, 1) := by decide +kernel
theorem dX1_decode_75 : decode cX1_decode 75 = .ok (.iload 6, 2) := by decide +kernel
theorem dX1_decode_77 : decode cX1_decode 77 = .ok (.iconst 2, 1) := by decide +kernel
theorem dX1_decode_78 : decode cX1_decode 78 = .ok (.if_icmp .ne 49, 3) := by decide +kernel
theorem dX1_decode_81 : decode cX1_decode 81 = .ok (.aload_n 0, 1) := by decide +kernel
theorem dX1_decode_82 : decode cX1_decode 82 = .ok (.getfield 15, 3) := by decide +kernel
theorem dX1_decode_85 : decode cX1_decode 85 = .ok (.aload_n 0, 1) := by decide +kernel
theorem dX1_decode_86 : decode cX1_decode 86 = .ok (.getfield 42, 3) := by decide +kernel
theorem dX1_decode_89 : decode cX1_decode 89 = .ok (.ldc 66, 2) := by decide +kernel
theorem dX1_decode_91 : decode cX1_decode 91 = .ok (.iload 5, 2) := by decide +kernel
theorem dX1_decode_93 : decode cX1_decode 93 = .ok (.ldc 65, 2) := by decide +kernel
theorem dX1_decode_95 : decode cX1_decode 95 = .ok (.isub, 1) := by decide +kernel
theorem dX1_decode_96 : decode cX1_decode 96 = .ok (.bipush 10, 2) := by decide +kernel
theorem dX1_decode_98 : decode cX1_decode 98 = .ok (.ishr, 1) := by decide +kernel
theorem dX1_decode_99 : decode cX1_decode 99 = .ok (.iadd, 1) := by decide +kernel
theorem dX1_decode_100 : decode cX1_decode 100 = .ok (.iastore, 1) := by decide +kernel
theorem dX1_decode_101 : decode cX1_decode 101 = .ok (.aload_n 0, 1) := by decide +kernel
theorem dX1_decode_102 : decode cX1_decode 102 = .ok (.getfield 15, 3) := by decide +kernel
theorem dX1_decode_105 : decode cX1_decode 105 = .ok (.aload_n 0, 1) := by decide +kernel
theorem dX1_decode_106 : decode cX1_decode 106 = .ok (.getfield 42, 3) := by decide +kernel
theorem dX1_decode_109 : decode cX1_decode 109 = .ok (.iconst 1, 1) := by decide +kernel
theorem dX1_decode_110 : decode cX1_decode 110 = .ok (.iadd, 1) := by decide +kernel
theorem dX1_decode_111 : decode cX1_decode 111 = .ok (.ldc 67, 2) := by decide +kernel
theorem dX1_decode_113 : decode cX1_decode 113 = .ok (.iload 5, 2) := by decide +kernel
theorem dX1_decode_115 : decode cX1_decode 115 = .ok (.ldc 65, 2) := by decide +kernel
theorem dX1_decode_117 : decode cX1_decode 117 = .ok (.isub, 1) := by decide +kernel
theorem dX1_decode_118 : decode cX1_decode 118 = .ok (.sipush 1023, 3) := by decide +kernel
theorem dX1_decode_121 : decode cX1_decode 121 = .ok (.iand, 1) := by decide +kernel
theorem dX1_decode_122 : decode cX1_decode 122 = .ok (.iadd, 1) := by decide +kernel
theorem dX1_decode_123 : decode cX1_decode 123 = .ok (.iastore, 1) := by decide +kernel
theorem dX1_decode_124 : decode cX1_decode 124 = .ok (.goto 24, 3) := by decide +kernel
theorem dX1_decode_127 : decode cX1_decode 127 = .ok (.aload_n 0, 1) := by decide +kernel
theorem dX1_decode_128 : decode cX1_decode 128 = .ok (.getfield 15, 3) := by decide +kernel
theorem dX1_decode_131 : decode cX1_decode 131 = .ok (.aload_n 0, 1) := by decide +kernel
theorem dX1_decode_132 : decode cX1_decode 132 = .ok (.getfield 42, 3) := by decide +kernel
theorem dX1_decode_135 : decode cX1_decode 135 = .ok (.iload 5, 2) := by decide +kernel
theorem dX1_decode_137 : decode cX1_decode 137 = .ok (.ifCond .ge 8, 3) := by decide +kernel
theorem dX1_decode_140 : decode cX1_decode 140 = .ok (.ldc 68, 2) := by decide +kernel
theorem dX1_decode_142 : decode cX1_decode 142 = .ok (.goto 5, 3) := by decide +kernel
theorem dX1_decode_145 : decode cX1_decode 145 = .ok (.iload 5, 2) := by decide +kernel
theorem dX1_decode_147 : decode cX1_decode 147 = .ok (.iastore, 1) := by decide +kernel
theorem dX1_decode_148 : decode cX1_decode 148 = .ok (.aload_n 0, 1) := by decide +kernel
theorem dX1_decode_149 : decode cX1_decode 149 = .ok (.dup, 1) := by decide +kernel
theorem dX1_decode_150 : decode cX1_decode 150 = .ok (.getfield 42, 3) := by decide +kernel
theorem dX1_decode_153 : decode cX1_decode 153 = .ok (.iload 6, 2) := by decide +kernel
theorem dX1_decode_155 : decode cX1_decode 155 = .ok (.iadd, 1) := by decide +kernel
theorem dX1_decode_156 : decode cX1_decode 156 = .ok (.putfield 42, 3) := by decide +kernel
theorem dX1_decode_159 : decode cX1_decode 159 = .ok (.iinc 4 1, 3) := by decide +kernel
theorem dX1_decode_162 : decode cX1_decode 162 = .ok (.goto (-152), 3) := by decide +kernel
theorem dX1_decode_165 : decode cX1_decode 165 = .ok (.iconst 1, 1) := by decide +kernel
theorem dX1_decode_166 : decode cX1_decode 166 = .ok (.ireturn, 1) := by decide +kernel
theorem dX1_part_0 : decode cX1_part 0 = .ok (.aload_n 0, 1) := by decide +kernel
theorem dX1_part_1 : decode cX1_part 1 = .ok (.iconst 0, 1) := by decide +kernel
theorem dX1_part_2 : decode cX1_part 2 = .ok (.putfield 69, 3) := by decide +kernel
theorem dX1_part_5 : decode cX1_part 5 = .ok (.aload_n 0, 1) := by decide +kernel
theorem dX1_part_6 : decode cX1_part 6 = .ok (.iconst 0, 1) := by decide +kernel
theorem dX1_part_7 : decode cX1_part 7 = .ok (.invokevirtual 75, 3) := by decide +kernel
theorem dX1_part_10 : decode cX1_part 10 = .ok (.istore_n 2, 1) := by decide +kernel
theorem dX1_part_11 : decode cX1_part 11 = .ok (.iconst 0, 1) := by decide +kernel
theorem dX1_part_12 : decode cX1_part 12 = .ok (.istore_n 3, 1) := by decide +kernel
theorem dX1_part_13 : decode cX1_part 13 = .ok (.iload_n 3, 1) := by decide +kernel
theorem dX1_part_14 : decode cX1_part 14 = .ok (.bipush 40, 2) := by decide +kernel
theorem dX1_part_16 : decode cX1_part 16 = .ok (.if_icmp .ge 85, 3) := by decide +kernel
theorem dX1_part_19 : decode cX1_part 19 = .ok (.iload_n 2, 1) := by decide +kernel
theorem dX1_part_20 : decode cX1_part 20 = .ok (.aload_n 0, 1) := by decide +kernel
theorem dX1_part_21 : decode cX1_part 21 = .ok (.getfield 42, 3) := by decide +kernel
theorem dX1_part_24 : decode cX1_part 24 = .ok (.if_icmp .ge 77, 3) := by decide +kernel
theorem dX1_part_27 : decode cX1_part 27 = .ok (.aload_n 0, 1) := by decide +kernel
theorem dX1_part_28 : decode cX1_part 28 = .ok (.iload_n 2, 1) := by decide +kernel
theorem dX1_part_29 : decode cX1_part 29 = .ok (.invokevirtual 78, 3) := by decide +kernel
theorem dX1_part_32 : decode cX1_part 32 = .ok (.istore 4, 2) := by decide +kernel
theorem dX1_part_34 : decode cX1_part 34 = .ok (.aload_n 0, 1) := by decide +kernel
theorem dX1_part_35 : decode cX1_part 35 = .ok (.getfield 18, 3) := by decide +kernel
theorem dX1_part_38 : decode cX1_part 38 = .ok (.iload_n 3, 1) := by decide +kernel
theorem dX1_part_39 : decode cX1_part 39 = .ok (.iload_n 2, 1) := by decide +kernel
theorem dX1_part_40 : decode cX1_part 40 = .ok (.iastore, 1) := by decide +kernel
theorem dX1_part_41 : decode cX1_part 41 = .ok (.aload_n 0, 1) := by decide +kernel
theorem dX1_part_42 : decode cX1_part 42 = .ok (.getfield 21, 3) := by decide +kernel
theorem dX1_part_45 : decode cX1_part 45 = .ok (.iload_n 3, 1) := by decide +kernel
theorem dX1_part_46 : decode cX1_part 46 = .ok (.iload 4, 2) := by decide +kernel
theorem dX1_part_48 : decode cX1_part 48 = .ok (.ifCond .ge 10, 3) := by decide +kernel
theorem dX1_part_51 : decode cX1_part 51 = .ok (.aload_n 0, 1) := by decide +kernel
theorem dX1_part_52 : decode cX1_part 52 = .ok (.getfield 42, 3) := by decide +kernel
theorem dX1_part_55 : decode cX1_part 55 = .ok (.goto 5, 3) := by decide +kernel
theorem dX1_part_58 : decode cX1_part 58 = .ok (.iload 4, 2) := by decide +kernel
theorem dX1_part_60 : decode cX1_part 60 = .ok (.iastore, 1) := by decide +kernel
theorem dX1_part_61 : decode cX1_part 61 = .ok (.aload_n 0, 1) := by decide +kernel
theorem dX1_part_62 : decode cX1_part 62 = .ok (.getfield 27, 3) := by decide +kernel
theorem dX1_part_65 : decode cX1_part 65 = .ok (.iload_n 3, 1) := by decide +kernel
theorem dX1_part_66 : decode cX1_part 66 = .ok (.iload 4, 2) := by decide +kernel
theorem dX1_part_68 : decode cX1_part 68 = .ok (.ifCond .ge 7, 3) := by decide +kernel
theorem dX1_part_71 : decode cX1_part 71 = .ok (.iconst 1, 1) := by decide +kernel
theorem dX1_part_72 : decode cX1_part 72 = .ok (.goto 4, 3) := by decide +kernel
theorem dX1_part_75 : decode cX1_part 75 = .ok (.iconst 0, 1) := by decide +kernel
theorem dX1_part_76 : decode cX1_part 76 = .ok (.iastore, 1) := by decide +kernel
theorem dX1_part_77 : decode cX1_part 77 = .ok (.aload_n 0, 1) := by decide +kernel
theorem dX1_part_78 : decode cX1_part 78 = .ok (.iload_n 3, 1) := by decide +kernel
theorem dX1_part_79 : decode cX1_part 79 = .ok (.iconst 1, 1) := by decide +kernel
theorem dX1_part_80 : decode cX1_part 80 = .ok (.iadd, 1) := by decide +kernel
theorem dX1_part_81 : decode cX1_part 81 = .ok (.putfield 69, 3) := by decide +kernel
theorem dX1_part_84 : decode cX1_part 84 = .ok (.aload_n 0, 1) := by decide +kernel
theorem dX1_part_85 : decode cX1_part 85 = .ok (.aload_n 0, 1) := by decide +kernel
theorem dX1_part_86 : decode cX1_part 86 = .ok (.getfield 21, 3) := by decide +kernel
theorem dX1_part_89 : decode cX1_part 89 = .ok (.iload_n 3, 1) := by decide +kernel
theorem dX1_part_90 : decode cX1_part 90 = .ok (.iaload, 1) := by decide +kernel
theorem dX1_part_91 : decode cX1_part 91 = .ok (.invokevirtual 75, 3) := by decide +kernel
theorem dX1_part_94 : decode cX1_part 94 = .ok (.istore_n 2, 1) := by decide +kernel
theorem dX1_part_95 : decode cX1_part 95 = .ok (.iinc 3 1, 3) := by decide +kernel
theorem dX1_part_98 : decode cX1_part 98 = .ok (.goto (-85), 3) := by decide +kernel
theorem dX1_part_101 : decode cX1_part 101 = .ok (.iload_n 2, 1) := by decide +kernel
theorem dX1_part_102 : decode cX1_part 102 = .ok (.aload_n 0, 1) := by decide +kernel
theorem dX1_part_103 : decode cX1_part 103 = .ok (.getfield 42, 3) := by decide +kernel
theorem dX1_part_106 : decode cX1_part 106 = .ok (.if_icmp .ge 31, 3) := by decide +kernel
theorem dX1_part_109 : decode cX1_part 109 = .ok (.aload_n 0, 1) := by decide +kernel
theorem dX1_part_110 : decode cX1_part 110 = .ok (.getfield 69, 3) := by decide +kernel
theorem dX1_part_113 : decode cX1_part 113 = .ok (.bipush 40, 2) := by decide +kernel
theorem dX1_part_115 : decode cX1_part 115 = .ok (.if_icmp .ne 22, 3) := by decide +kernel
theorem dX1_part_118 : decode cX1_part 118 = .ok (.aload_n 0, 1) := by decide +kernel
theorem dX1_part_119 : decode cX1_part 119 = .ok (.getfield 21, 3) := by decide +kernel
theorem dX1_part_122 : decode cX1_part 122 = .ok (.bipush 39, 2) := by decide +kernel
theorem dX1_part_124 : decode cX1_part 124 = .ok (.aload_n 0, 1) := by decide +kernel
theorem dX1_part_125 : decode cX1_part 125 = .ok (.getfield 42, 3) := by decide +kernel
theorem dX1_part_128 : decode cX1_part 128 = .ok (.iastore, 1) := by decide +kernel
theorem dX1_part_129 : decode cX1_part 129 = .ok (.aload_n 0, 1) := by decide +kernel
theorem dX1_part_130 : decode cX1_part 130 = .ok (.getfield 27, 3) := by decide +kernel
theorem dX1_part_133 : decode cX1_part 133 = .ok (.bipush 39, 2) := by decide +kernel
theorem dX1_part_135 : decode cX1_part 135 = .ok (.iconst 2, 1) := by decide +kernel
theorem dX1_part_136 : decode cX1_part 136 = .ok (.iastore, 1) := by decide +kernel
theorem dX1_part_137 : decode cX1_part 137 = .ok (.iconst 0, 1) := by decide +kernel
theorem dX1_part_138 : decode cX1_part 138 = .ok (.istore_n 3, 1) := by decide +kernel
theorem dX1_part_139 : decode cX1_part 139 = .ok (.iload_n 3, 1) := by decide +kernel
theorem dX1_part_140 : decode cX1_part 140 = .ok (.aload_n 0, 1) := by decide +kernel
theorem dX1_part_141 : decode cX1_part 141 = .ok (.getfield 69, 3) := by decide +kernel
theorem dX1_part_144 : decode cX1_part 144 = .ok (.if_icmp .ge 50, 3) := by decide +kernel
theorem dX1_part_147 : decode cX1_part 147 = .ok (.aload_n 0, 1) := by decide +kernel
theorem dX1_part_148 : decode cX1_part 148 = .ok (.getfield 24, 3) := by decide +kernel
theorem dX1_part_151 : decode cX1_part 151 = .ok (.iload_n 3, 1) := by decide +kernel
theorem dX1_part_152 : decode cX1_part 152 = .ok (.iconst 3, 1) := by decide +kernel
theorem dX1_part_153 : decode cX1_part 153 = .ok (.aload_n 0, 1) := by decide +kernel
theorem dX1_part_154 : decode cX1_part 154 = .ok (.getfield 27, 3) := by decide +kernel
theorem dX1_part_157 : decode cX1_part 157 = .ok (.iload_n 3, 1) := by decide +kernel
theorem dX1_part_158 : decode cX1_part 158 = .ok (.iaload, 1) := by decide +kernel
theorem dX1_part_159 : decode cX1_part 159 = .ok (.ifCond .le 7, 3) := by decide +kernel
theorem dX1_part_162 : decode cX1_part 162 = .ok (.iconst 1, 1) := by decide +kernel
theorem dX1_part_163 : decode cX1_part 163 = .ok (.goto 23, 3) := by decide +kernel
theorem dX1_part_166 : decode cX1_part 166 = .ok (.aload_n 1, 1) := by decide +kernel
theorem dX1_part_167 : decode cX1_part 167 = .ok (.aload_n 0, 1) := by decide +kernel
theorem dX1_part_168 : decode cX1_part 168 = .ok (.getfield 15, 3) := by decide +kernel
theorem dX1_part_171 : decode cX1_part 171 = .ok (.aload_n 0, 1) := by decide +kernel
theorem dX1_part_172 : decode cX1_part 172 = .ok (.getfield 18, 3) := by decide +kernel
theorem dX1_part_175 : decode cX1_part 175 = .ok (.iload_n 3, 1) := by decide +kernel
theorem dX1_part_176 : decode cX1_part 176 = .ok (.iaload, 1) := by decide +kernel
theorem dX1_part_177 : decode cX1_part 177 = .ok (.aload_n 0, 1) := by decide +kernel
theorem dX1_part_178 : decode cX1_part 178 = .ok (.getfield 21, 3) := by decide +kernel
theorem dX1_part_181 : decode cX1_part 181 = .ok (.iload_n 3, 1) := by decide +kernel
theorem dX1_part_182 : decode cX1_part 182 = .ok (.iaload, 1) := by decide +kernel
theorem dX1_part_183 : decode cX1_part 183 = .ok (.invokevirtual 81, 3) := by decide +kernel
theorem dX1_part_186 : decode cX1_part 186 = .ok (.iadd, 1) := by decide +kernel
theorem dX1_part_187 : decode cX1_part 187 = .ok (.iastore, 1) := by decide +kernel
theorem dX1_part_188 : decode cX1_part 188 = .ok (.iinc 3 1, 3) := by decide +kernel
theorem dX1_part_191 : decode cX1_part 191 = .ok (.goto (-52), 3) := by decide +kernel
theorem dX1_part_194 : decode cX1_part 194 = .ok (.return_, 1) := by decide +kernel
theorem dX1_sentenceBegin_0 : decode cX1_sentenceBegin 0 = .ok (.iload_n 1, 1) := by decide +kernel
theorem dX1_sentenceBegin_1 : decode cX1_sentenceBegin 1 = .ok (.istore_n 2, 1) := by decide +kernel
theorem dX1_sentenceBegin_2 : decode cX1_sentenceBegin 2 = .ok (.iconst 0, 1) := by decide +kernel
theorem dX1_sentenceBegin_3 : decode cX1_sentenceBegin 3 = .ok (.istore_n 3, 1) := by decide +kernel
theorem dX1_sentenceBegin_4 : decode cX1_sentenceBegin 4 = .ok (.iload_n 3, 1) := by decide +kernel
theorem dX1_sentenceBegin_5 : decode cX1_sentenceBegin 5 = .ok (.aload_n 0, 1) := by decide +kernel
theorem dX1_sentenceBegin_6 : decode cX1_sentenceBegin 6 = .ok (.getfield 42, 3) := by decide +kernel
theorem dX1_sentenceBegin_9 : decode cX1_sentenceBegin 9 = .ok (.if_icmp .gt 59, 3) := by decide +kernel
theorem dX1_sentenceBegin_12 : decode cX1_sentenceBegin 12 = .ok (.iload_n 2, 1) := by decide +kernel
theorem dX1_sentenceBegin_13 : decode cX1_sentenceBegin 13 = .ok (.aload_n 0, 1) := by decide +kernel
theorem dX1_sentenceBegin_14 : decode cX1_sentenceBegin 14 = .ok (.getfield 42, 3) := by decide +kernel
theorem dX1_sentenceBegin_17 : decode cX1_sentenceBegin 17 = .ok (.if_icmp .ge 51, 3) := by decide +kernel
theorem dX1_sentenceBegin_20 : decode cX1_sentenceBegin 20 = .ok (.aload_n 0, 1) := by decide +kernel
theorem dX1_sentenceBegin_21 : decode cX1_sentenceBegin 21 = .ok (.getfield 15, 3) := by decide +kernel
theorem dX1_sentenceBegin_24 : decode cX1_sentenceBegin 24 = .ok (.iload_n 2, 1) := by decide +kernel
theorem dX1_sentenceBegin_25 : decode cX1_sentenceBegin 25 = .ok (.iaload, 1) := by decide +kernel
theorem dX1_sentenceBegin_26 : decode cX1_sentenceBegin 26 = .ok (.invokestatic 87, 3) := by decide +kernel
theorem dX1_sentenceBegin_29 : decode cX1_sentenceBegin 29 = .ok (.ifCond .eq 9, 3) := by decide +kernel
theorem dX1_sentenceBegin_32 : decode cX1_sentenceBegin 32 = .ok (.iinc 2 1, 3) := by decide +kernel
theorem dX1_sentenceBegin_35 : decode cX1_sentenceBegin 35 = .ok (.goto 27, 3) := by decide +kernel
theorem dX1_sentenceBegin_38 : decode cX1_sentenceBegin 38 = .ok (.aload_n 0, 1) := by decide +kernel
theorem dX1_sentenceBegin_39 : decode cX1_sentenceBegin 39 = .ok (.getfield 15, 3) := by decide +kernel
theorem dX1_sentenceBegin_42 : decode cX1_sentenceBegin 42 = .ok (.iload_n 2, 1) := by decide +kernel
theorem dX1_sentenceBegin_43 : decode cX1_sentenceBegin 43 = .ok (.aload_n 0, 1) := by decide +kernel
theorem dX1_sentenceBegin_44 : decode cX1_sentenceBegin 44 = .ok (.getfield 42, 3) := by decide +kernel
theorem dX1_sentenceBegin_47 : decode cX1_sentenceBegin 47 = .ok (.invokestatic 91, 3) := by decide +kernel
theorem dX1_sentenceBegin_50 : decode cX1_sentenceBegin 50 = .ok (.istore 4, 2) := by decide +kernel
theorem dX1_sentenceBegin_52 : decode cX1_sentenceBegin 52 = .ok (.iload 4, 2) := by decide +kernel
theorem dX1_sentenceBegin_54 : decode cX1_sentenceBegin 54 = .ok (.ifCond .ge 5, 3) := by decide +kernel
theorem dX1_sentenceBegin_57 : decode cX1_sentenceBegin 57 = .ok (.iload_n 2, 1) := by decide +kernel
theorem dX1_sentenceBegin_58 : decode cX1_sentenceBegin 58 = .ok (.ireturn, 1) := by decide +kernel
theorem dX1_sentenceBegin_59 : decode cX1_sentenceBegin 59 = .ok (.iload 4, 2) := by decide +kernel
theorem dX1_sentenceBegin_61 : decode cX1_sentenceBegin 61 = .ok (.istore_n 2, 1) := by decide +kernel
theorem dX1_sentenceBegin_62 : decode cX1_sentenceBegin 62 = .ok (.iinc 3 1, 3) := by decide +kernel
theorem dX1_sentenceBegin_65 : decode cX1_sentenceBegin 65 = .ok (.goto (-61), 3) := by decide +kernel
theorem dX1_sentenceBegin_68 : decode cX1_sentenceBegin 68 = .ok (.iload_n 2, 1) := by decide +kernel
theorem dX1_sentenceBegin_69 : decode cX1_sentenceBegin 69 = .ok (.ireturn, 1) := by decide +kernel
theorem dX1_sentenceEnd_0 : decode cX1_sentenceEnd 0 = .ok (.iload_n 1, 1) := by decide +kernel
theorem dX1_sentenceEnd_1 : decode cX1_sentenceEnd 1 = .ok (.istore_n 2, 1) := by decide +kernel
theorem dX1_sentenceEnd_2 : decode cX1_sentenceEnd 2 = .ok (.iconst 0, 1) := by decide +kernel
theorem dX1_sentenceEnd_3 : decode cX1_sentenceEnd 3 = .ok (.istore_n 3, 1) := by decide +kernel
theorem dX1_sentenceEnd_4 : decode cX1_sentenceEnd 4 = .ok (.iload_n 3, 1) := by decide +kernel
theorem dX1_sentenceEnd_5 : decode cX1_sentenceEnd 5 = .ok (.aload_n 0, 1) := by decide +kernel
theorem dX1_sentenceEnd_6 : decode cX1_sentenceEnd 6 = .ok (.getfield 42, 3) := by decide +kernel
theorem dX1_sentenceEnd_9 : decode cX1_sentenceEnd 9 = .ok (.if_icmp .gt 114, 3) := by decide +kernel
theorem dX1_sentenceEnd_12 : decode cX1_sentenceEnd 12 = .ok (.iload_n 2, 1) := by decide +kernel
theorem dX1_sentenceEnd_13 : decode cX1_sentenceEnd 13 = .ok (.aload_n 0, 1) := by decide +kernel
theorem dX1_sentenceEnd_14 : decode cX1_sentenceEnd 14 = .ok (.getfield 42, 3) := by decide +kernel
theorem dX1_sentenceEnd_17 : decode cX1_sentenceEnd 17 = .ok (.if_icmp .ge 106, 3) := by decide +kernel
theorem dX1_sentenceEnd_20 : decode cX1_sentenceEnd 20 = .ok (.aload_n 0, 1) := by decide +kernel
theorem dX1_sentenceEnd_21 : decode cX1_sentenceEnd 21 = .ok (.getfield 15, 3) := by decide +kernel
theorem dX1_sentenceEnd_24 : decode cX1_sentenceEnd 24 = .ok (.iload_n 2, 1) := by decide +kernel
theorem dX1_sentenceEnd_25 : decode cX1_sentenceEnd 25 = .ok (.aload_n 0, 1) := by decide +kernel
theorem dX1_sentenceEnd_26 : decode cX1_sentenceEnd 26 = .ok (.getfield 42, 3) := by decide +kernel
theorem dX1_sentenceEnd_29 : decode cX1_sentenceEnd 29 = .ok (.invokestatic 94, 3) := by decide +kernel
theorem dX1_sentenceEnd_32 : decode cX1_sentenceEnd 32 = .ok (.ifCond .eq 22, 3) := by decide +kernel
theorem dX1_sentenceEnd_35 : decode cX1_sentenceEnd 35 = .ok (.aload_n 0, 1) := by decide +kernel
theorem dX1_sentenceEnd_36 : decode cX1_sentenceEnd 36 = .ok (.getfield 15, 3) := by decide +kernel
theorem dX1_sentenceEnd_39 : decode cX1_sentenceEnd 39 = .ok (.iload_n 2, 1) := by decide +kernel
theorem dX1_sentenceEnd_40 : decode cX1_sentenceEnd 40 = .ok (.aload_n 0, 1) := by decide +kernel
theorem dX1_sentenceEnd_41 : decode cX1_sentenceEnd 41 = .ok (.getfield 42, 3) := by decide +kernel
theorem dX1_sentenceEnd_44 : decode cX1_sentenceEnd 44 = .ok (.invokestatic 91, 3) := by decide +kernel
theorem dX1_sentenceEnd_47 : decode cX1_sentenceEnd 47 = .ok (.istore_n 2, 1) := by decide +kernel
theorem dX1_sentenceEnd_48 : decode cX1_sentenceEnd 48 = .ok (.iload_n 2, 1) := by decide +kernel
theorem dX1_sentenceEnd_49 : decode cX1_sentenceEnd 49 = .ok (.ifCond .ge 68, 3) := by decide +kernel
theorem dX1_sentenceEnd_52 : decode cX1_sentenceEnd 52 = .ok (.iconst (-1), 1) := by decide +kernel
theorem dX1_sentenceEnd_53 : decode cX1_sentenceEnd 53 = .ok (.ireturn, 1) := by decide +kernel
theorem dX1_sentenceEnd_54 : decode cX1_sentenceEnd 54 = .ok (.aload_n 0, 1) := by decide +kernel
theorem dX1_sentenceEnd_55 : decode cX1_sentenceEnd 55 = .ok (.getfield 15, 3) := by decide +kernel
theorem dX1_sentenceEnd_58 : decode cX1_sentenceEnd 58 = .ok (.iload_n 2, 1) := by decide +kernel
theorem dX1_sentenceEnd_59 : decode cX1_sentenceEnd 59 = .ok (.iaload, 1) := by decide +kernel
theorem dX1_sentenceEnd_60 : decode cX1_sentenceEnd 60 = .ok (.bipush 46, 2) := by decide +kernel
theorem dX1_sentenceEnd_62 : decode cX1_sentenceEnd 62 = .ok (.if_icmp .ne 7, 3) := by decide +kernel
theorem dX1_sentenceEnd_65 : decode cX1_sentenceEnd 65 = .ok (.iconst 1, 1) := by decide +kernel
theorem dX1_sentenceEnd_66 : decode cX1_sentenceEnd 66 = .ok (.goto 4, 3) := by decide +kernel
theorem dX1_sentenceEnd_69 : decode cX1_sentenceEnd 69 = .ok (.iconst 0, 1) := by decide +kernel
theorem dX1_sentenceEnd_70 : decode cX1_sentenceEnd 70 = .ok (.istore 4, 2) := by decide +kernel
theorem dX1_sentenceEnd_72 : decode cX1_sentenceEnd 72 = .ok (.iinc 2 1, 3) := by decide +kernel
theorem dX1_sentenceEnd_75 : decode cX1_sentenceEnd 75 = .ok (.iload 4, 2) := by decide +kernel
theorem dX1_sentenceEnd_77 : decode cX1_sentenceEnd 77 = .ok (.ifCond .eq 40, 3) := by decide +kernel
theorem dX1_sentenceEnd_80 : decode cX1_sentenceEnd 80 = .ok (.iload_n 2, 1) := by decide +kernel
theorem dX1_sentenceEnd_81 : decode cX1_sentenceEnd 81 = .ok (.aload_n 0, 1) := by decide +kernel
theorem dX1_sentenceEnd_82 : decode cX1_sentenceEnd 82 = .ok (.getfield 42, 3) := by decide +kernel
theorem dX1_sentenceEnd_85 : decode cX1_sentenceEnd 85 = .ok (.if_icmp .eq 30, 3) := by decide +kernel
theorem dX1_sentenceEnd_88 : decode cX1_sentenceEnd 88 = .ok (.aload_n 0, 1) := by decide +kernel
theorem dX1_sentenceEnd_89 : decode cX1_sentenceEnd 89 = .ok (.getfield 15, 3) := by decide +kernel
theorem dX1_sentenceEnd_92 : decode cX1_sentenceEnd 92 = .ok (.iload_n 2, 1) := by decide +kernel
theorem dX1_sentenceEnd_93 : decode cX1_sentenceEnd 93 = .ok (.iaload, 1) := by decide +kernel
theorem dX1_sentenceEnd_94 : decode cX1_sentenceEnd 94 = .ok (.invokestatic 87, 3) := by decide +kernel
theorem dX1_sentenceEnd_97 : decode cX1_sentenceEnd 97 = .ok (.ifCond .ne 18, 3) := by decide +kernel
theorem dX1_sentenceEnd_100 : decode cX1_sentenceEnd 100 = .ok (.aload_n 0, 1) := by decide +kernel
theorem dX1_sentenceEnd_101 : decode cX1_sentenceEnd 101 = .ok (.getfield 15, 3) := by decide +kernel
theorem dX1_sentenceEnd_104 : decode cX1_sentenceEnd 104 = .ok (.iload_n 2, 1) := by decide +kernel
theorem dX1_sentenceEnd_105 : decode cX1_sentenceEnd 105 = .ok (.aload_n 0, 1) := by decide +kernel
theorem dX1_sentenceEnd_106 : decode cX1_sentenceEnd 106 = .ok (.getfield 42, 3) := by decide +kernel
theorem dX1_sentenceEnd_109 : decode cX1_sentenceEnd 109 = .ok (.invokestatic 94, 3) := by decide +kernel
theorem dX1_sentenceEnd_112 : decode cX1_sentenceEnd 112 = .ok (.ifCond .eq 5, 3) := by decide +kernel
theorem dX1_sentenceEnd_115 : decode cX1_sentenceEnd 115 = .ok (.iload_n 2, 1) := by decide +kernel
theorem dX1_sentenceEnd_116 : decode cX1_sentenceEnd 116 = .ok (.ireturn, 1) := by decide +kernel
theorem dX1_sentenceEnd_117 : decode cX1_sentenceEnd 117 = .ok (.iinc 3 1, 3) := by decide +kernel
theorem dX1_sentenceEnd_120 : decode cX1_sentenceEnd 120 = .ok (.goto (-116), 3) := by decide +kernel
theorem dX1_sentenceEnd_123 : decode cX1_sentenceEnd 123 = .ok (.iconst (-1), 1) := by decide +kernel
theorem dX1_sentenceEnd_124 : decode cX1_sentenceEnd 124 = .ok (.ireturn, 1) := by decide +kernel
end
section
theorem dJ7_copyOfRange_feecc_4 : decode cJ7_copyOfRange_feecc 4 = .ok (.iload_n 2, 1) := by decide +kernel
theorem dJ7_copyOfRange_feecc_5 : decode cJ7_copyOfRange_feecc 5 = .ok (.aload_n 0, 1) := by decide +kernel
theorem dJ7_copyOfRange_feecc_6 : decode cJ7_copyOfRange_feecc 6 = .ok (.arraylength, 1) := by decide +kernel
theorem dJ7_copyOfRange_feecc_7 : decode cJ7_copyOfRange_feecc 7 = .ok (.if_icmp .eq 10, 3) := by decide +kernel
theorem dJ7_copyOfRange_feecc_17 : decode cJ7_copyOfRange_feecc 17 = .ok (.aload_n 0, 1) := by decide +kernel
theorem dJ7_copyOfRange_feecc_18 : decode cJ7_copyOfRange_feecc 18 = .ok (.invokevirtual 316, 3) := by decide +kernel
theorem dJ7_copyOfRange_feecc_21 : decode cJ7_copyOfRange_feecc 21 = .ok (.checkcast 317, 3) := by decide +kernel
theorem dJ7_copyOfRange_feecc_24 : decode cJ7_copyOfRange_feecc 24 = .ok (.areturn, 1) := by decide +kernel
end
section
def EX6_numberOfBt9 : List (Nat × Nat) := [(8, 3), (102, 0), (132, 0), (133, 0)]
set_option maxHeartbeats 4000000 in
set_option maxRecDepth 20000 in
theorem uX6_numberOfBt9 (l : Launch) (dC : Nat → ClassId) (dI : Nat → Nat → Nat) (ca : Nat → ClassId) (base : Nat) (B : jF) (hB : jBok B) (hAp : jAp (dC, dI)) (hB8 : ∀ n G a H, B 8 n G a H ↔ jOb (dC, dI) 8 4 (F8 n G) a H) (hB102 : ∀ n G a H, B 102 n G a H ↔ jAl (dC, dI) (ca 2) n a H) (hB132 : ∀ n G a H, B 132 n G a H ↔ jAr (dC, dI) (ca 1) (fun j z => 0 ≤ z.toInt ∧ z.toInt ≤ 10) n a H) (hB133 : ∀ n G a H, B 133 n G a H ↔ jAr (dC, dI) (ca 1) (fun j z => 0 ≤ z.toInt ∧ z.toInt ≤ 8192) n a H) (hB173 : ∀ n G a H, B 173 n G a H ↔ jAr (dC, dI) (ca 1) (fun j z => True) n a H) (G0 : jT) (H0 : Heap) (r0 : Nat) (r1 : Nat) (a2 : Int32) (a3 : Int32) (a4 : Int32) (n1 : Nat) (xs : Nat) (xp : Nat) (xl : Nat) : Met l yX6_numberOf (jw yX6_numberOf cX6_numberOf 10 (some .int)) ({ frames := 1, cells := 0, slots := 0, locals := 28 }) (va_Pc [.ref r0, .ref r1, .int a2, .int a3, .int a4] (fun U => U.heap = H0 ∧ jX B base G0 [] H0 ∧ jG dC dI ca base U ∧ G0 r0 = some (8, 0) ∧ G0 r1 = some (173, n1) ∧ G0 xs = some (102, 8192) ∧ G0 xp = some (132, 8192) ∧ G0 xl = some (133, 16384) ∧ jP (dC, dI) G0 H0 [(r0, 8, 0, .ref xs), (r0, 8, 1, .ref xp), (r0, 8, 2, .ref xl)] ∧ n1 < 2147483648)) (va_Qi (S := Unit) (fun r u => (-1 ≤ r.toInt ∧ r.toInt ≤ 8191)) (fun u t => (jRt (dC, dI) B base G0 EX6_numberOfBt9 H0 [] t.heap) ∧ jKl [r0, xs, xp, xl] H0 t.heap) (jA base)) 0 0 (jA base) := by
  refine Met.ofW (cc := cX6_numberOf) (maxL := 10) (ret := (some .int)) (by decide) rfl ?_
  intro p e s m args below meth c s₁ Bd hml hv
  obtain ⟨rfl, hH0, hX, hG, hg_r0, hg_r1, hg_xs, hg_xp, hg_xl, hP0, hp0⟩ := hv
  have hK := hG.1
  have hx := Bd.exec
  have hb := Bd.bytes
  have hr := Bd.returns
  have hts := atoms_spec (ws := (jw yX6_numberOf cX6_numberOf 10 (some .int))) Bd.pre
  have htw : ∀ w ∈ jWl, w.before _ s = true := fun w h => hts w (List.mem_cons_of_mem _ h)
  have hown : s.vm.findClass RX6 = some m.cls := findClass_of_methodNamed Bd.named
  have hlocks := Bd.notSynchronized
  obtain ⟨Q, hQ⟩ : ∃ Q, Q = MQ below (va_Qi (S := Unit) (fun r u => (-1 ≤ r.toInt ∧ r.toInt ≤ 8191)) (fun u t => (jRt (dC, dI) B base G0 EX6_numberOfBt9 H0 [] t.heap) ∧ jKl [r0, xs, xp, xl] H0 t.heap) (jA base)) ([.ref r0, .ref r1, .int a2, .int a3, .int a4] : List Value).toArray s 0 0 (jA base) := ⟨_, rfl⟩
  rw [← hQ]
  have hl := lv_entry ([.ref r0, .ref r1, .int a2, .int a3, .int a4]) (n := 10) (Nat.le_of_ble_eq_true rfl)
  rw [lg_entry_eq]
  generalize (lg_sl ([.ref r0, .ref r1, .int a2, .int a3, .int a4]) ++ List.replicate (10 - (lg_sl ([.ref r0, .ref r1, .int a2, .int a3, .int a4])).length) Slot.unset).toArray = ls at hl ⊢
  have hl : lv_has ls 10 [(0, .ref r0), (1, .ref r1), (2, .int a2), (3, .int a3), (4, .int a4)] := hl
  generalize hR : (headSpec (jw yX6_numberOf cX6_numberOf 10 (some .int)) ({ frames := 1, cells := 0, slots := 0, locals := 28 })).room = R
  subst hH0
  have hh : jSt (dC, dI) B base G0 G0 EX6_numberOfBt9 s.heap 0 0 [(r0, 8, 0, .ref xs), (r0, 8, 1, .ref xp), (r0, 8, 2, .ref xl)] [] [] s.heap [] := jSt.start hX hP0 jMc.nil jIs.nil
  clear hX hP0
  have hkm1 : ((-1) : Int32).toInt = (-1) := by decide
  have hk0 : (0 : Int32).toInt = 0 := by decide
  have hk1 : (1 : Int32).toInt = 1 := by decide
  have hk6 : (6 : Int32).toInt = 6 := by decide
  have hk10 : (10 : Int32).toInt = 10 := by decide
  have hk39 : (39 : Int32).toInt = 39 := by decide
  have hrg_a2 := jb_rng a2
  have hrg_a3 := jb_rng a3
  have hrg_a4 := jb_rng a4
  have hfl : jKl [r0, xs, xp, xl] s.heap s.heap := jKl.rf
  refine lv_iload_n hx hb dX6_numberOf_0 rfl (lv_at hl 2 rfl) ?_
  refine lv_if_lt (tgt := 32) hx hb dX6_numberOf_1 (by decide) (fun c_1 => ?_) (fun c_1 => ?_)
  · skip
    have c_1' : a2.toInt < 0 := jb_lt (rfl) ((by decide)) c_1
    refine lv_iconst (v := (-1)) hx hb dX6_numberOf_32 (by decide) ?_
    rw [hQ]
    exact W.iret (v := (-1)) hx hb hr (fun t ht hW => ⟨⟨(-1), (), rfl, by first | omega | (refine ⟨?_, ?_⟩ <;> (first | omega | rfl | assumption | decide | exact Or.inl rfl | exact Or.inr rfl | (simp only; omega))), ⟨hh.rt (M1 := []) [] rfl ht, by rw [ht]; exact hfl⟩⟩, by rw [ht]; try exact hh.1.1, fun q h9 hq => by rw [ht]; try exact hh.1.2.1 q h9 hq⟩) hh.1.2.2 dX6_numberOf_33
  · skip
    have c_1' : a2.toInt ≥ 0 := jb_lt_n (rfl) ((by decide)) c_1
    refine lv_iload_n hx hb dX6_numberOf_4 rfl (lv_at hl 3 rfl) ?_
    refine lv_aload_n hx hb dX6_numberOf_5 rfl (lv_at hl 1 rfl) ?_
    refine j7_len hx hb hK hh hB173 1 rfl (by decide) hg_r1 (by omega) dX6_numberOf_6 (fun z_2 hz_2 => ?_)
    refine lv_icmp_gt (tgt := 32) hx hb dX6_numberOf_7 (by decide) (fun c_3 => ?_) (fun c_3 => ?_)
    · skip
      have c_3' : a3.toInt > z_2.toInt := jb_gt (rfl) (rfl) c_3
      refine lv_iconst (v := (-1)) hx hb dX6_numberOf_32 (by decide) ?_
      rw [hQ]
      exact W.iret (v := (-1)) hx hb hr (fun t ht hW => ⟨⟨(-1), (), rfl, by first | omega | (refine ⟨?_, ?_⟩ <;> (first | omega | rfl | assumption | decide | exact Or.inl rfl | exact Or.inr rfl | (simp only; omega))), ⟨hh.rt (M1 := []) [] rfl ht, by rw [ht]; exact hfl⟩⟩, by rw [ht]; try exact hh.1.1, fun q h9 hq => by rw [ht]; try exact hh.1.2.1 q h9 hq⟩) hh.1.2.2 dX6_numberOf_33
    · skip
      have c_3' : a3.toInt ≤ z_2.toInt := jb_gt_n (rfl) (rfl) c_3
      refine lv_iload_n hx hb dX6_numberOf_10 rfl (lv_at hl 2 rfl) ?_
      refine lv_iload_n hx hb dX6_numberOf_11 rfl (lv_at hl 3 rfl) ?_
      refine lv_icmp_ge (tgt := 32) hx hb dX6_numberOf_12 (by decide) (fun c_4 => ?_) (fun c_4 => ?_)
      · skip
        have c_4' : a2.toInt ≥ a3.toInt := jb_ge (rfl) (rfl) c_4
        refine lv_iconst (v := (-1)) hx hb dX6_numberOf_32 (by decide) ?_
        rw [hQ]
        exact W.iret (v := (-1)) hx hb hr (fun t ht hW => ⟨⟨(-1), (), rfl, by first | omega | (refine ⟨?_, ?_⟩ <;> (first | omega | rfl | assumption | decide | exact Or.inl rfl | exact Or.inr rfl | (simp only; omega))), ⟨hh.rt (M1 := []) [] rfl ht, by rw [ht]; exact hfl⟩⟩, by rw [ht]; try exact hh.1.1, fun q h9 hq => by rw [ht]; try exact hh.1.2.1 q h9 hq⟩) hh.1.2.2 dX6_numberOf_33
      · skip
        have c_4' : a2.toInt < a3.toInt := jb_ge_n (rfl) (rfl) c_4
        refine lv_iload_n hx hb dX6_numberOf_15 rfl (lv_at hl 3 rfl) ?_
        refine lv_iload_n hx hb dX6_numberOf_16 rfl (lv_at hl 2 rfl) ?_
        refine lv_isub hx hb dX6_numberOf_17 ?_
        refine lv_topi (fun z_5 ez_5 => ?_)
        have hz_5 : z_5.toInt = a3.toInt - a2.toInt := by rw [ez_5]; exact jb_isub2 (rfl) (rfl) (by omega)
        refine lv_bipush (v := 10) hx hb dX6_numberOf_18 (by decide) ?_
        refine lv_icmp_gt (tgt := 32) hx hb dX6_numberOf_20 (by decide) (fun c_6 => ?_) (fun c_6 => ?_)
        · skip
          have c_6' : z_5.toInt > 10 := jb_gt (rfl) ((by decide)) c_6
          refine lv_iconst (v := (-1)) hx hb dX6_numberOf_32 (by decide) ?_
          rw [hQ]
          exact W.iret (v := (-1)) hx hb hr (fun t ht hW => ⟨⟨(-1), (), rfl, by first | omega | (refine ⟨?_, ?_⟩ <;> (first | omega | rfl | assumption | decide | exact Or.inl rfl | exact Or.inr rfl | (simp only; omega))), ⟨hh.rt (M1 := []) [] rfl ht, by rw [ht]; exact hfl⟩⟩, by rw [ht]; try exact hh.1.1, fun q h9 hq => by rw [ht]; try exact hh.1.2.1 q h9 hq⟩) hh.1.2.2 dX6_numberOf_33
        · skip
          have c_6' : z_5.toInt ≤ 10 := jb_gt_n (rfl) ((by decide)) c_6
          refine lv_aload_n hx hb dX6_numberOf_23 rfl (lv_at hl 1 rfl) ?_
          refine lv_iload_n hx hb dX6_numberOf_24 rfl (lv_at hl 2 rfl) ?_
          refine j7_iald hx hb hK hh hB173 1 rfl (by decide) hg_r1 (x := a2.toInt) (rfl) (by omega) dX6_numberOf_25 (fun z_7 (hz_7 : True) => ?_)
          refine vp_callSi (va_Run.run (va_runSN (As := [.int z_7]) (rest := []) ⟨hx, hb, hml, hown, hts⟩ (wX11_isLetter l dC dI ca base s.heap z_7) ⟨va_cnB 1 hts (jgW (jWr_7 _ (List.mem_of_getElem? (i := 18) rfl))) rfl rfl rfl (hG.2.2.1 RX6 38 yX11_isLetter "ProofServer" (List.mem_of_getElem? (i := 217) (by decide +kernel))) (htw (.initialized RX11) (jWr_1 _ (List.mem_of_getElem? (i := 2) rfl))) (by decide +kernel) ⟨by rw [← hR]; exact Nat.le_of_ble_eq_true rfl, by rw [← hR]; exact Nat.le_of_ble_eq_true rfl⟩, htw (.static yX11_isLetter) (jWr_7 _ (List.mem_of_getElem? (i := 17) rfl)), trivial⟩ ⟨fun a U g mk q => by obtain ⟨q0, q1, qK, q9⟩ := q; exact ⟨q0, q1, jG.calling g mk a qK, q9⟩, fun U hU hW => ⟨rfl, hU, hG.step hW hU hh.1, by first | trivial | omega | (constructor <;> omega)⟩⟩ rfl rfl hl.1 rfl (lv_room (Nat.le_of_ble_eq_true rfl)) dX6_numberOf_26 ⟨Nat.zero_le _, Nat.zero_le _⟩)) (fun r_8 hr_8 => ?_)
          have hr_8' : r_8.toInt = 0 ∨ r_8.toInt = 1 := jb_01 hr_8
          refine lv_if_ne (tgt := 34) hx hb dX6_numberOf_29 (by decide) (fun c_9 => ?_) (fun c_9 => ?_)
          · skip
            have c_9' : r_8.toInt ≠ 0 := jb_ne (rfl) ((by decide)) c_9
            refine lv_iload_n hx hb dX6_numberOf_34 rfl (lv_at hl 3 rfl) ?_
            refine lv_istore (lv' := [(5, .int a3), (0, .ref r0), (1, .ref r1), (2, .int a2), (3, .int a3), (4, .int a4)]) hx hb dX6_numberOf_35 hl (by decide) rfl (fun ls hl => ?_)
            have L37 : ∀ (N : Nat) (v5_10 : Int32) (H_10 : Heap) (locs_10 : List Loc), jSt (dC, dI) B base G0 G0 EX6_numberOfBt9 s.heap 0 0 [(r0, 8, 0, .ref xs), (r0, 8, 1, .ref xp), (r0, 8, 2, .ref xl)] [] [] H_10 locs_10 → jKl [r0, xs, xp, xl] s.heap H_10 → (a2.toInt ≤ v5_10.toInt ∧ v5_10.toInt ≤ a3.toInt) → (v5_10.toInt - a2.toInt : Int) < N → ∀ ls : Array Slot, lv_has ls 10 [(0, .ref r0), (1, .ref r1), (2, .int a2), (3, .int a3), (4, .int a4), (5, .int v5_10)] → W p l e R s m ([.ref r0, .ref r1, .int a2, .int a3, .int a4] : List Value).toArray below meth c H_10 locs_10 0 0 Q (F0 m 37 ls []) := by
              intro N
              induction N with
              | zero => intro v5_10 H_10 locs_10 hh_10 hfl_10 hi_10 hm; exact absurd hm (by omega)
              | succ N L37 =>
                intro v5_10 H_10 locs_10 hh_10 hfl_10 hi_10 hm_10 ls hl
                obtain ⟨hi_10_0, hi_10_1⟩ := hi_10
                refine lv_iload hx hb dX6_numberOf_37 (lv_at hl 5 rfl) ?_
                refine lv_iload_n hx hb dX6_numberOf_39 rfl (lv_at hl 2 rfl) ?_
                refine lv_icmp_le (tgt := 60) hx hb dX6_numberOf_40 (by decide) (fun c_11 => ?_) (fun c_11 => ?_)
                · skip
                  have c_11' : v5_10.toInt ≤ a2.toInt := jb_le (rfl) (rfl) c_11
                  refine lv_lconst (v := 1) hx hb dX6_numberOf_60 (by decide) ?_
                  refine lv_lstore (lv' := [(6, .long 1), (0, .ref r0), (1, .ref r1), (2, .int a2), (3, .int a3), (4, .int a4), (5, .int v5_10)]) hx hb dX6_numberOf_61 hl (by decide) rfl (fun ls hl => ?_)
                  refine lv_iload hx hb dX6_numberOf_63 (lv_at hl 6 rfl) ?_
                  refine lv_iconst (v := 1) hx hb dX6_numberOf_65 (by decide) ?_
                  refine lv_isub hx hb dX6_numberOf_66 ?_
                  refine lv_topi (fun z_12 ez_12 => ?_)
                  have hz_12 : z_12.toInt = v5_10.toInt - 1 := by rw [ez_12]; exact jb_isub2 (rfl) ((by decide)) (by omega)
                  refine lv_istore (lv' := [(8, .int z_12), (6, .long 1), (0, .ref r0), (1, .ref r1), (2, .int a2), (3, .int a3), (4, .int a4), (5, .int v5_10)]) hx hb dX6_numberOf_67 hl (by decide) rfl (fun ls hl => ?_)
                  have L69 : ∀ (N : Nat) (v6_13 : Int64) (v8_13 : Int32) (H_13 : Heap) (locs_13 : List Loc), jSt (dC, dI) B base G0 G0 EX6_numberOfBt9 s.heap 0 0 [(r0, 8, 0, .ref xs), (r0, 8, 1, .ref xp), (r0, 8, 2, .ref xl)] [] [] H_13 locs_13 → jKl [r0, xs, xp, xl] s.heap H_13 → (a2.toInt - 1 ≤ v8_13.toInt ∧ v8_13.toInt < a3.toInt) → (v8_13.toInt + 1 - a2.toInt : Int) < N → ∀ ls : Array Slot, lv_has ls 10 [(0, .ref r0), (1, .ref r1), (2, .int a2), (3, .int a3), (4, .int a4), (5, .int v5_10), (6, .long v6_13), (8, .int v8_13)] → W p l e R s m ([.ref r0, .ref r1, .int a2, .int a3, .int a4] : List Value).toArray below meth c H_13 locs_13 0 0 Q (F0 m 69 ls []) := by
                    intro N
                    induction N with
                    | zero => intro v6_13 v8_13 H_13 locs_13 hh_13 hfl_13 hi_13 hm; exact absurd hm (by omega)
                    | succ N L69 =>
                      intro v6_13 v8_13 H_13 locs_13 hh_13 hfl_13 hi_13 hm_13 ls hl
                      obtain ⟨hi_13_0, hi_13_1⟩ := hi_13
                      refine lv_iload hx hb dX6_numberOf_69 (lv_at hl 7 rfl) ?_
                      refine lv_iload_n hx hb dX6_numberOf_71 rfl (lv_at hl 2 rfl) ?_
                      refine lv_icmp_lt (tgt := 108) hx hb dX6_numberOf_72 (by decide) (fun c_14 => ?_) (fun c_14 => ?_)
                      · skip
                        have c_14' : v8_13.toInt < a2.toInt := jb_lt (rfl) (rfl) c_14
                        refine lv_aload_n hx hb dX6_numberOf_108 rfl (lv_at hl 0 rfl) ?_
                        refine lv_lload hx hb dX6_numberOf_109 (lv_at hl 6 rfl) ?_
                        refine lv_iload_n hx hb dX6_numberOf_111 rfl (lv_at hl 3 rfl) ?_
                        refine lv_iload hx hb dX6_numberOf_112 (lv_at hl 5 rfl) ?_
                        refine lv_isub hx hb dX6_numberOf_114 ?_
                        refine lv_topi (fun z_15 ez_15 => ?_)
                        have hz_15 : z_15.toInt = a3.toInt - v5_10.toInt := by rw [ez_15]; exact jb_isub2 (rfl) (rfl) (by omega)
                        refine lv_iload hx hb dX6_numberOf_115 (lv_at hl 4 rfl) ?_
                        refine va_calli (A0 := jA base) (H0 := s.heap) (va_runV (As := [.long v6_13, .int z_15, .int a4]) (rest := []) ⟨hx, hb, hml, hown, hts⟩ (uX6_findB l dC dI ca base B hB hAp hB8 hB102 hB132 hB133 G0 H_13 r0 v6_13 z_15 a4 xs xp xl) (cwV 3 hts (jgV (jWr_7 _ (List.mem_of_getElem? (i := 22) rfl)) (jWr_7 _ (List.mem_of_getElem? (i := 23) rfl)) (jWr_8 _ (List.mem_of_getElem? (i := 0) rfl)) (jWr_4 _ (List.mem_of_getElem? (i := 10) rfl)) (jWr_8 _ (List.mem_of_getElem? (i := 1) rfl))) rfl rfl rfl (by decide +kernel) ⟨by rw [← hR]; exact Nat.le_of_ble_eq_true rfl, by rw [← hR]; exact Nat.le_of_ble_eq_true rfl⟩) ⟨fun a U g mk q => by obtain ⟨q0, q1, q2, qK, q10, q11, q12, q13, q14, q15⟩ := q; exact ⟨q0, q1, q2, jG.calling g mk a qK, q10, q11, q12, q13, q14, q15⟩, hh_13.recv (C := RX6) (T := TX6) (N := 4) hB8 rfl (by decide) hg_r0 hK, fun U hU hW => ⟨rfl, hU, hh_13.2.1, hG.step hW hU hh_13.1, hg_r0, hg_xs, hg_xp, hg_xl, (hh_13.2.2.1.sub (L1 := [(r0, 8, 0, .ref xs), (r0, 8, 1, .ref xp), (r0, 8, 2, .ref xl)]) [0, 1, 2] rfl), by first | omega | (refine ⟨?_, ?_⟩ <;> (first | omega | rfl | assumption | decide | exact Or.inl rfl | exact Or.inr rfl | (simp only; omega)))⟩⟩ rfl rfl hl.1 rfl (lv_room (Nat.le_of_ble_eq_true rfl)) dX6_numberOf_117 ⟨Nat.zero_le _, Nat.zero_le _⟩) hh_13.1 (fun q _ h => h) (fun q h => h) (fun r_17 u_16 t_16 H_16 locs_16 ht_16 hvm_16 hr_17 hb_16 hz_16 hk_16 hS_16 => ?_)
                        rw [ht_16] at hb_16
                        obtain ⟨hb_16, hbF_16⟩ := hb_16
                        obtain ⟨hb_161, hb_162, hb_163, hb_164, hb_165⟩ := hb_16
                        have hh_16 : jSt (dC, dI) B base G0 G0 EX6_numberOfBt9 s.heap 0 0 [(r0, 8, 0, .ref xs), (r0, 8, 1, .ref xp), (r0, 8, 2, .ref xl)] [] [] H_16 locs_16 := ((hh_13.call hb_161 hb_162 hb_163 hb_164 hS_16 rfl (L1 := [(r0, 8, 0, .ref xs), (r0, 8, 1, .ref xp), (r0, 8, 2, .ref xl)]) [0, 1, 2] rfl rfl (M1 := []) [] rfl rfl (I1 := []) [] rfl rfl).more hb_165)
                        clear hh_13 ht_16 hvm_16 hz_16 hk_16 hS_16 hb_161 hb_162 hb_163 hb_164 hb_165
                        have hfl_18 := hfl_13.tr hbF_16 (by first | exact fun q h => h | (intro q h9; simp at h9 ⊢; exact h9) | (intro q h9; simp at h9))
                        obtain ⟨hr_17_0, hr_17_1⟩ := hr_17
                        rw [hQ]
                        exact W.iret (v := r_17) hx hb hr (fun t ht hW => ⟨⟨r_17, (), rfl, by first | omega | (refine ⟨?_, ?_⟩ <;> (first | omega | rfl | assumption | decide | exact Or.inl rfl | exact Or.inr rfl | (simp only; omega))), ⟨hh_16.rt (M1 := []) [] rfl ht, by rw [ht]; exact hfl_18⟩⟩, by rw [ht]; try exact hh_16.1.1, fun q h9 hq => by rw [ht]; try exact hh_16.1.2.1 q h9 hq⟩) hh_16.1.2.2 dX6_numberOf_120
                      · skip
                        have c_14' : v8_13.toInt ≥ a2.toInt := jb_lt_n (rfl) (rfl) c_14
                        refine lv_aload_n hx hb dX6_numberOf_75 rfl (lv_at hl 1 rfl) ?_
                        refine lv_iload hx hb dX6_numberOf_76 (lv_at hl 7 rfl) ?_
                        refine j7_iald hx hb hK hh_13 hB173 1 rfl (by decide) hg_r1 (x := v8_13.toInt) (rfl) (by omega) dX6_numberOf_78 (fun z_19 (hz_19 : True) => ?_)
                        refine vp_callSi (W.runS (As := [.int z_19]) (rest := []) ⟨hx, hb, hml, hown, hts⟩ (wX6_signOf l dC dI ca base H_13 z_19) (va_cwS 1 hts (jgS (jWr_7 _ (List.mem_of_getElem? (i := 19) rfl)) (jWr_7 _ (List.mem_of_getElem? (i := 20) rfl)) (jWr_4 _ (List.mem_of_getElem? (i := 10) rfl)) (jWr_7 _ (List.mem_of_getElem? (i := 21) rfl))) rfl rfl rfl (by decide +kernel) ⟨by rw [← hR]; exact Nat.le_of_ble_eq_true rfl, by rw [← hR]; exact Nat.le_of_ble_eq_true rfl⟩) ⟨fun a U g mk q => by obtain ⟨q0, q1, qK, q9⟩ := q; exact ⟨q0, q1, jG.calling g mk a qK, q9⟩, fun U hU hW => ⟨rfl, hU, hG.step hW hU hh_13.1, by first | trivial | omega | (constructor <;> omega)⟩⟩ rfl rfl hl.1 rfl (lv_room (Nat.le_of_ble_eq_true rfl)) dX6_numberOf_79 ⟨Nat.zero_le _, Nat.zero_le _⟩) (fun r_20 hr_20 => ?_)
                        refine lv_istore (lv' := [(9, .int r_20), (0, .ref r0), (1, .ref r1), (2, .int a2), (3, .int a3), (4, .int a4), (5, .int v5_10), (6, .long v6_13), (8, .int v8_13)]) hx hb dX6_numberOf_82 hl (by decide) rfl (fun ls hl => ?_)
                        refine lv_iload hx hb dX6_numberOf_84 (lv_at hl 0 rfl) ?_
                        refine lv_if_ge (tgt := 91) hx hb dX6_numberOf_86 (by decide) (fun c_21 => ?_) (fun c_21 => ?_)
                        · skip
                          have c_21' : r_20.toInt ≥ 0 := jb_ge (rfl) ((by decide)) c_21
                          refine lv_lload hx hb dX6_numberOf_91 (lv_at hl 7 rfl) ?_
                          refine lv_bipush (v := 6) hx hb dX6_numberOf_93 (by decide) ?_
                          refine lv_lshl hx hb dX6_numberOf_95 rfl ?_
                          refine lv_topl (fun z_22 ez_22 => ?_)
                          refine lv_iload hx hb dX6_numberOf_96 (lv_at hl 0 rfl) ?_
                          refine lv_i2l hx hb dX6_numberOf_98 rfl ?_
                          refine lv_topl (fun z_23 ez_23 => ?_)
                          refine lv_lor hx hb dX6_numberOf_99 ?_
                          refine lv_topl (fun z_24 ez_24 => ?_)
                          refine lv_lstore (lv' := [(6, .long z_24), (9, .int r_20), (0, .ref r0), (1, .ref r1), (2, .int a2), (3, .int a3), (4, .int a4), (5, .int v5_10), (8, .int v8_13)]) hx hb dX6_numberOf_100 hl (by decide) rfl (fun ls hl => ?_)
                          obtain ⟨z_25, ez_25⟩ : ∃ y : Int32, y = v8_13 + (-1) := ⟨_, rfl⟩
                          refine lv_iinc (v := z_25) (lv' := [(8, .int z_25), (6, .long z_24), (9, .int r_20), (0, .ref r0), (1, .ref r1), (2, .int a2), (3, .int a3), (4, .int a4), (5, .int v5_10)]) hx hb dX6_numberOf_102 hl (k := 8) rfl (by rw [ez_25]; rfl) (by decide) rfl (fun ls hl => ?_)
                          have hz_25 : z_25.toInt = v8_13.toInt + (-1) := by rw [ez_25]; exact jb_iadd2 (rfl) (by decide) (by omega)
                          refine lv_goto (tgt := 69) hx hb dX6_numberOf_105 (by decide) ?_
                          exact L69 z_24 z_25 _ _ hh_13 (hfl_13) (by first | omega | (refine ⟨?_, ?_⟩ <;> (first | omega | rfl | assumption | decide | exact Or.inl rfl | exact Or.inr rfl | (simp only; omega)))) (by omega) _ (lv_sub hl [3, 4, 5, 6, 7, 8, 1, 0] rfl)
                        · skip
                          have c_21' : r_20.toInt < 0 := jb_ge_n (rfl) ((by decide)) c_21
                          refine lv_iconst (v := (-1)) hx hb dX6_numberOf_89 (by decide) ?_
                          rw [hQ]
                          exact W.iret (v := (-1)) hx hb hr (fun t ht hW => ⟨⟨(-1), (), rfl, by first | omega | (refine ⟨?_, ?_⟩ <;> (first | omega | rfl | assumption | decide | exact Or.inl rfl | exact Or.inr rfl | (simp only; omega))), ⟨hh_13.rt (M1 := []) [] rfl ht, by rw [ht]; exact hfl_13⟩⟩, by rw [ht]; try exact hh_13.1.1, fun q h9 hq => by rw [ht]; try exact hh_13.1.2.1 q h9 hq⟩) hh_13.1.2.2 dX6_numberOf_90
                  exact L69 ((z_12 : Int32).toInt + 1 - a2.toInt : Int).toNat.succ 1 z_12 _ _ hh_10 (hfl_10) (by first | omega | (refine ⟨?_, ?_⟩ <;> (first | omega | rfl | assumption | decide | exact Or.inl rfl | exact Or.inr rfl | (simp only; omega)))) (by omega) _ (lv_sub hl [2, 3, 4, 5, 6, 7, 1, 0] rfl)
                · skip
                  have c_11' : v5_10.toInt > a2.toInt := jb_le_n (rfl) (rfl) c_11
                  refine lv_aload_n hx hb dX6_numberOf_43 rfl (lv_at hl 1 rfl) ?_
                  refine lv_iload hx hb dX6_numberOf_44 (lv_at hl 5 rfl) ?_
                  refine lv_iconst (v := 1) hx hb dX6_numberOf_46 (by decide) ?_
                  refine lv_isub hx hb dX6_numberOf_47 ?_
                  refine lv_topi (fun z_26 ez_26 => ?_)
                  have hz_26 : z_26.toInt = v5_10.toInt - 1 := by rw [ez_26]; exact jb_isub2 (rfl) ((by decide)) (by omega)
                  refine j7_iald hx hb hK hh_10 hB173 1 rfl (by decide) hg_r1 (x := z_26.toInt) (rfl) (by omega) dX6_numberOf_48 (fun z_27 (hz_27 : True) => ?_)
                  refine lv_bipush (v := 39) hx hb dX6_numberOf_49 (by decide) ?_
                  refine lv_icmp_ne (tgt := 60) hx hb dX6_numberOf_51 (by decide) (fun c_28 => ?_) (fun c_28 => ?_)
                  · skip
                    have c_28' : z_27.toInt ≠ 39 := jb_ne (rfl) ((by decide)) c_28
                    refine lv_lconst (v := 1) hx hb dX6_numberOf_60 (by decide) ?_
                    refine lv_lstore (lv' := [(6, .long 1), (0, .ref r0), (1, .ref r1), (2, .int a2), (3, .int a3), (4, .int a4), (5, .int v5_10)]) hx hb dX6_numberOf_61 hl (by decide) rfl (fun ls hl => ?_)
                    refine lv_iload hx hb dX6_numberOf_63 (lv_at hl 6 rfl) ?_
                    refine lv_iconst (v := 1) hx hb dX6_numberOf_65 (by decide) ?_
                    refine lv_isub hx hb dX6_numberOf_66 ?_
                    refine lv_topi (fun z_29 ez_29 => ?_)
                    have hz_29 : z_29.toInt = v5_10.toInt - 1 := by rw [ez_29]; exact jb_isub2 (rfl) ((by decide)) (by omega)
                    refine lv_istore (lv' := [(8, .int z_29), (6, .long 1), (0, .ref r0), (1, .ref r1), (2, .int a2), (3, .int a3), (4, .int a4), (5, .int v5_10)]) hx hb dX6_numberOf_67 hl (by decide) rfl (fun ls hl => ?_)
                    have L69 : ∀ (N : Nat) (v6_30 : Int64) (v8_30 : Int32) (H_30 : Heap) (locs_30 : List Loc), jSt (dC, dI) B base G0 G0 EX6_numberOfBt9 s.heap 0 0 [(r0, 8, 0, .ref xs), (r0, 8, 1, .ref xp), (r0, 8, 2, .ref xl)] [] [] H_30 locs_30 → jKl [r0, xs, xp, xl] s.heap H_30 → (a2.toInt - 1 ≤ v8_30.toInt ∧ v8_30.toInt < a3.toInt) → (v8_30.toInt + 1 - a2.toInt : Int) < N → ∀ ls : Array Slot, lv_has ls 10 [(0, .ref r0), (1, .ref r1), (2, .int a2), (3, .int a3), (4, .int a4), (5, .int v5_10), (6, .long v6_30), (8, .int v8_30)] → W p l e R s m ([.ref r0, .ref r1, .int a2, .int a3, .int a4] : List Value).toArray below meth c H_30 locs_30 0 0 Q (F0 m 69 ls []) := by
                      intro N
                      induction N with
                      | zero => intro v6_30 v8_30 H_30 locs_30 hh_30 hfl_30 hi_30 hm; exact absurd hm (by omega)
                      | succ N L69 =>
                        intro v6_30 v8_30 H_30 locs_30 hh_30 hfl_30 hi_30 hm_30 ls hl
                        obtain ⟨hi_30_0, hi_30_1⟩ := hi_30
                        refine lv_iload hx hb dX6_numberOf_69 (lv_at hl 7 rfl) ?_
                        refine lv_iload_n hx hb dX6_numberOf_71 rfl (lv_at hl 2 rfl) ?_
                        refine lv_icmp_lt (tgt := 108) hx hb dX6_numberOf_72 (by decide) (fun c_31 => ?_) (fun c_31 => ?_)
                        · skip
                          have c_31' : v8_30.toInt < a2.toInt := jb_lt (rfl) (rfl) c_31
                          refine lv_aload_n hx hb dX6_numberOf_108 rfl (lv_at hl 0 rfl) ?_
                          refine lv_lload hx hb dX6_numberOf_109 (lv_at hl 6 rfl) ?_
                          refine lv_iload_n hx hb dX6_numberOf_111 rfl (lv_at hl 3 rfl) ?_
                          refine lv_iload hx hb dX6_numberOf_112 (lv_at hl 5 rfl) ?_
                          refine lv_isub hx hb dX6_numberOf_114 ?_
                          refine lv_topi (fun z_32 ez_32 => ?_)
                          have hz_32 : z_32.toInt = a3.toInt - v5_10.toInt := by rw [ez_32]; exact jb_isub2 (rfl) (rfl) (by omega)
                          refine lv_iload hx hb dX6_numberOf_115 (lv_at hl 4 rfl) ?_
                          refine va_calli (A0 := jA base) (H0 := s.heap) (va_runV (As := [.long v6_30, .int z_32, .int a4]) (rest := []) ⟨hx, hb, hml, hown, hts⟩ (uX6_findB l dC dI ca base B hB hAp hB8 hB102 hB132 hB133 G0 H_30 r0 v6_30 z_32 a4 xs xp xl) (cwV 3 hts (jgV (jWr_7 _ (List.mem_of_getElem? (i := 22) rfl)) (jWr_7 _ (List.mem_of_getElem? (i := 23) rfl)) (jWr_8 _ (List.mem_of_getElem? (i := 0) rfl)) (jWr_4 _ (List.mem_of_getElem? (i := 10) rfl)) (jWr_8 _ (List.mem_of_getElem? (i := 1) rfl))) rfl rfl rfl (by decide +kernel) ⟨by rw [← hR]; exact Nat.le_of_ble_eq_true rfl, by rw [← hR]; exact Nat.le_of_ble_eq_true rfl⟩) ⟨fun a U g mk q => by obtain ⟨q0, q1, q2, qK, q10, q11, q12, q13, q14, q15⟩ := q; exact ⟨q0, q1, q2, jG.calling g mk a qK, q10, q11, q12, q13, q14, q15⟩, hh_30.recv (C := RX6) (T := TX6) (N := 4) hB8 rfl (by decide) hg_r0 hK, fun U hU hW => ⟨rfl, hU, hh_30.2.1, hG.step hW hU hh_30.1, hg_r0, hg_xs, hg_xp, hg_xl, (hh_30.2.2.1.sub (L1 := [(r0, 8, 0, .ref xs), (r0, 8, 1, .ref xp), (r0, 8, 2, .ref xl)]) [0, 1, 2] rfl), by first | omega | (refine ⟨?_, ?_⟩ <;> (first | omega | rfl | assumption | decide | exact Or.inl rfl | exact Or.inr rfl | (simp only; omega)))⟩⟩ rfl rfl hl.1 rfl (lv_room (Nat.le_of_ble_eq_true rfl)) dX6_numberOf_117 ⟨Nat.zero_le _, Nat.zero_le _⟩) hh_30.1 (fun q _ h => h) (fun q h => h) (fun r_34 u_33 t_33 H_33 locs_33 ht_33 hvm_33 hr_34 hb_33 hz_33 hk_33 hS_33 => ?_)
                          rw [ht_33] at hb_33
                          obtain ⟨hb_33, hbF_33⟩ := hb_33
                          obtain ⟨hb_331, hb_332, hb_333, hb_334, hb_335⟩ := hb_33
                          have hh_33 : jSt (dC, dI) B base G0 G0 EX6_numberOfBt9 s.heap 0 0 [(r0, 8, 0, .ref xs), (r0, 8, 1, .ref xp), (r0, 8, 2, .ref xl)] [] [] H_33 locs_33 := ((hh_30.call hb_331 hb_332 hb_333 hb_334 hS_33 rfl (L1 := [(r0, 8, 0, .ref xs), (r0, 8, 1, .ref xp), (r0, 8, 2, .ref xl)]) [0, 1, 2] rfl rfl (M1 := []) [] rfl rfl (I1 := []) [] rfl rfl).more hb_335)
                          clear hh_30 ht_33 hvm_33 hz_33 hk_33 hS_33 hb_331 hb_332 hb_333 hb_334 hb_335
                          have hfl_35 := hfl_30.tr hbF_33 (by first | exact fun q h => h | (intro q h9; simp at h9 ⊢; exact h9) | (intro q h9; simp at h9))
                          obtain ⟨hr_34_0, hr_34_1⟩ := hr_34
                          rw [hQ]
                          exact W.iret (v := r_34) hx hb hr (fun t ht hW => ⟨⟨r_34, (), rfl, by first | omega | (refine ⟨?_, ?_⟩ <;> (first | omega | rfl | assumption | decide | exact Or.inl rfl | exact Or.inr rfl | (simp only; omega))), ⟨hh_33.rt (M1 := []) [] rfl ht, by rw [ht]; exact hfl_35⟩⟩, by rw [ht]; try exact hh_33.1.1, fun q h9 hq => by rw [ht]; try exact hh_33.1.2.1 q h9 hq⟩) hh_33.1.2.2 dX6_numberOf_120
                        · skip
                          have c_31' : v8_30.toInt ≥ a2.toInt := jb_lt_n (rfl) (rfl) c_31
                          refine lv_aload_n hx hb dX6_numberOf_75 rfl (lv_at hl 1 rfl) ?_
                          refine lv_iload hx hb dX6_numberOf_76 (lv_at hl 7 rfl) ?_
                          refine j7_iald hx hb hK hh_30 hB173 1 rfl (by decide) hg_r1 (x := v8_30.toInt) (rfl) (by omega) dX6_numberOf_78 (fun z_36 (hz_36 : True) => ?_)
                          refine vp_callSi (W.runS (As := [.int z_36]) (rest := []) ⟨hx, hb, hml, hown, hts⟩ (wX6_signOf l dC dI ca base H_30 z_36) (va_cwS 1 hts (jgS (jWr_7 _ (List.mem_of_getElem? (i := 19) rfl)) (jWr_7 _ (List.mem_of_getElem? (i := 20) rfl)) (jWr_4 _ (List.mem_of_getElem? (i := 10) rfl)) (jWr_7 _ (List.mem_of_getElem? (i := 21) rfl))) rfl rfl rfl (by decide +kernel) ⟨by rw [← hR]; exact Nat.le_of_ble_eq_true rfl, by rw [← hR]; exact Nat.le_of_ble_eq_true rfl⟩) ⟨fun a U g mk q => by obtain ⟨q0, q1, qK, q9⟩ := q; exact ⟨q0, q1, jG.calling g mk a qK, q9⟩, fun U hU hW => ⟨rfl, hU, hG.step hW hU hh_30.1, by first | trivial | omega | (constructor <;> omega)⟩⟩ rfl rfl hl.1 rfl (lv_room (Nat.le_of_ble_eq_true rfl)) dX6_numberOf_79 ⟨Nat.zero_le _, Nat.zero_le _⟩) (fun r_37 hr_37 => ?_)
                          refine lv_istore (lv' := [(9, .int r_37), (0, .ref r0), (1, .ref r1), (2, .int a2), (3, .int a3), (4, .int a4), (5, .int v5_10), (6, .long v6_30), (8, .int v8_30)]) hx hb dX6_numberOf_82 hl (by decide) rfl (fun ls hl => ?_)
                          refine lv_iload hx hb dX6_numberOf_84 (lv_at hl 0 rfl) ?_
                          refine lv_if_ge (tgt := 91) hx hb dX6_numberOf_86 (by decide) (fun c_38 => ?_) (fun c_38 => ?_)
                          · skip
                            have c_38' : r_37.toInt ≥ 0 := jb_ge (rfl) ((by decide)) c_38
                            refine lv_lload hx hb dX6_numberOf_91 (lv_at hl 7 rfl) ?_
                            refine lv_bipush (v := 6) hx hb dX6_numberOf_93 (by decide) ?_
                            refine lv_lshl hx hb dX6_numberOf_95 rfl ?_
                            refine lv_topl (fun z_39 ez_39 => ?_)
                            refine lv_iload hx hb dX6_numberOf_96 (lv_at hl 0 rfl) ?_
                            refine lv_i2l hx hb dX6_numberOf_98 rfl ?_
                            refine lv_topl (fun z_40 ez_40 => ?_)
                            refine lv_lor hx hb dX6_numberOf_99 ?_
                            refine lv_topl (fun z_41 ez_41 => ?_)
                            refine lv_lstore (lv' := [(6, .long z_41), (9, .int r_37), (0, .ref r0), (1, .ref r1), (2, .int a2), (3, .int a3), (4, .int a4), (5, .int v5_10), (8, .int v8_30)]) hx hb dX6_numberOf_100 hl (by decide) rfl (fun ls hl => ?_)
                            obtain ⟨z_42, ez_42⟩ : ∃ y : Int32, y = v8_30 + (-1) := ⟨_, rfl⟩
                            refine lv_iinc (v := z_42) (lv' := [(8, .int z_42), (6, .long z_41), (9, .int r_37), (0, .ref r0), (1, .ref r1), (2, .int a2), (3, .int a3), (4, .int a4), (5, .int v5_10)]) hx hb dX6_numberOf_102 hl (k := 8) rfl (by rw [ez_42]; rfl) (by decide) rfl (fun ls hl => ?_)
                            have hz_42 : z_42.toInt = v8_30.toInt + (-1) := by rw [ez_42]; exact jb_iadd2 (rfl) (by decide) (by omega)
                            refine lv_goto (tgt := 69) hx hb dX6_numberOf_105 (by decide) ?_
                            exact L69 z_41 z_42 _ _ hh_30 (hfl_30) (by first | omega | (refine ⟨?_, ?_⟩ <;> (first | omega | rfl | assumption | decide | exact Or.inl rfl | exact Or.inr rfl | (simp only; omega)))) (by omega) _ (lv_sub hl [3, 4, 5, 6, 7, 8, 1, 0] rfl)
                          · skip
                            have c_38' : r_37.toInt < 0 := jb_ge_n (rfl) ((by decide)) c_38
                            refine lv_iconst (v := (-1)) hx hb dX6_numberOf_89 (by decide) ?_
                            rw [hQ]
                            exact W.iret (v := (-1)) hx hb hr (fun t ht hW => ⟨⟨(-1), (), rfl, by first | omega | (refine ⟨?_, ?_⟩ <;> (first | omega | rfl | assumption | decide | exact Or.inl rfl | exact Or.inr rfl | (simp only; omega))), ⟨hh_30.rt (M1 := []) [] rfl ht, by rw [ht]; exact hfl_30⟩⟩, by rw [ht]; try exact hh_30.1.1, fun q h9 hq => by rw [ht]; try exact hh_30.1.2.1 q h9 hq⟩) hh_30.1.2.2 dX6_numberOf_90
                    exact L69 ((z_29 : Int32).toInt + 1 - a2.toInt : Int).toNat.succ 1 z_29 _ _ hh_10 (hfl_10) (by first | omega | (refine ⟨?_, ?_⟩ <;> (first | omega | rfl | assumption | decide | exact Or.inl rfl | exact Or.inr rfl | (simp only; omega)))) (by omega) _ (lv_sub hl [2, 3, 4, 5, 6, 7, 1, 0] rfl)
                  · skip
                    have c_28' : z_27.toInt = 39 := jb_ne_n (rfl) ((by decide)) c_28
                    obtain ⟨z_43, ez_43⟩ : ∃ y : Int32, y = v5_10 + (-1) := ⟨_, rfl⟩
                    refine lv_iinc (v := z_43) (lv' := [(5, .int z_43), (0, .ref r0), (1, .ref r1), (2, .int a2), (3, .int a3), (4, .int a4)]) hx hb dX6_numberOf_54 hl (k := 5) rfl (by rw [ez_43]; rfl) (by decide) rfl (fun ls hl => ?_)
                    have hz_43 : z_43.toInt = v5_10.toInt + (-1) := by rw [ez_43]; exact jb_iadd2 (rfl) (by decide) (by omega)
                    refine lv_goto (tgt := 37) hx hb dX6_numberOf_57 (by decide) ?_
                    exact L37 z_43 _ _ hh_10 (hfl_10) (by first | omega | (refine ⟨?_, ?_⟩ <;> (first | omega | rfl | assumption | decide | exact Or.inl rfl | exact Or.inr rfl | (simp only; omega)))) (by omega) _ (lv_sub hl [1, 2, 3, 4, 5, 0] rfl)
            exact L37 ((a3 : Int32).toInt - a2.toInt : Int).toNat.succ a3 _ _ hh (hfl) (by first | omega | (refine ⟨?_, ?_⟩ <;> (first | omega | rfl | assumption | decide | exact Or.inl rfl | exact Or.inr rfl | (simp only; omega)))) (by omega) _ (lv_sub hl [1, 2, 3, 4, 5, 0] rfl)
          · skip
            have c_9' : r_8.toInt = 0 := jb_ne_n (rfl) ((by decide)) c_9
            refine lv_iconst (v := (-1)) hx hb dX6_numberOf_32 (by decide) ?_
            rw [hQ]
            exact W.iret (v := (-1)) hx hb hr (fun t ht hW => ⟨⟨(-1), (), rfl, by first | omega | (refine ⟨?_, ?_⟩ <;> (first | omega | rfl | assumption | decide | exact Or.inl rfl | exact Or.inr rfl | (simp only; omega))), ⟨hh.rt (M1 := []) [] rfl ht, by rw [ht]; exact hfl⟩⟩, by rw [ht]; try exact hh.1.1, fun q h9 hq => by rw [ht]; try exact hh.1.2.1 q h9 hq⟩) hh.1.2.2 dX6_numberOf_33
end
section
theorem dX1_init_0 : decode cX1_init 0 = .ok (.aload_n 0, 1) := by decide +kernel
theorem dX1_init_1 : decode cX1_init 1 = .ok (.invokespecial 3, 3) := by decide +kernel
theorem dX1_init_4 : decode cX1_init 4 = .ok (.aload_n 0, 1) := by decide +kernel
theorem dX1_init_5 : decode cX1_init 5 = .ok (.iconst 0, 1) := by decide +kernel
theorem dX1_init_6 : decode cX1_init 6 = .ok (.newarray .int, 2) := by decide +kernel
theorem dX1_init_8 : decode cX1_init 8 = .ok (.putfield 9, 3) := by decide +kernel
theorem dX1_init_11 : decode cX1_init 11 = .ok (.aload_n 0, 1) := by decide +kernel
theorem dX1_init_12 : decode cX1_init 12 = .ok (.sipush 1500, 3) := by decide +kernel
theorem dX1_init_15 : decode cX1_init 15 = .ok (.newarray .int, 2) := by decide +kernel
theorem dX1_init_17 : decode cX1_init 17 = .ok (.putfield 15, 3) := by decide +kernel
theorem dX1_init_20 : decode cX1_init 20 = .ok (.aload_n 0, 1) := by decide +kernel
theorem dX1_init_21 : decode cX1_init 21 = .ok (.bipush 40, 2) := by decide +kernel
theorem dX1_init_23 : decode cX1_init 23 = .ok (.newarray .int, 2) := by decide +kernel
theorem dX1_init_25 : decode cX1_init 25 = .ok (.putfield 18, 3) := by decide +kernel
theorem dX1_init_28 : decode cX1_init 28 = .ok (.aload_n 0, 1) := by decide +kernel
theorem dX1_init_29 : decode cX1_init 29 = .ok (.bipush 40, 2) := by decide +kernel
theorem dX1_init_31 : decode cX1_init 31 = .ok (.newarray .int, 2) := by decide +kernel
theorem dX1_init_33 : decode cX1_init 33 = .ok (.putfield 21, 3) := by decide +kernel
theorem dX1_init_36 : decode cX1_init 36 = .ok (.aload_n 0, 1) := by decide +kernel
theorem dX1_init_37 : decode cX1_init 37 = .ok (.bipush 40, 2) := by decide +kernel
theorem dX1_init_39 : decode cX1_init 39 = .ok (.newarray .int, 2) := by decide +kernel
theorem dX1_init_41 : decode cX1_init 41 = .ok (.putfield 24, 3) := by decide +kernel
theorem dX1_init_44 : decode cX1_init 44 = .ok (.aload_n 0, 1) := by decide +kernel
theorem dX1_init_45 : decode cX1_init 45 = .ok (.bipush 40, 2) := by decide +kernel
theorem dX1_init_47 : decode cX1_init 47 = .ok (.newarray .int, 2) := by decide +kernel
theorem dX1_init_49 : decode cX1_init 49 = .ok (.putfield 27, 3) := by decide +kernel
theorem dX1_init_52 : decode cX1_init 52 = .ok (.aload_n 0, 1) := by decide +kernel
theorem dX1_init_53 : decode cX1_init 53 = .ok (.bipush 40, 2) := by decide +kernel
theorem dX1_init_55 : decode cX1_init 55 = .ok (.anewarray 30, 3) := by decide +kernel
theorem dX1_init_58 : decode cX1_init 58 = .ok (.putfield 32, 3) := by decide +kernel
theorem dX1_init_61 : decode cX1_init 61 = .ok (.return_, 1) := by decide +kernel
end
