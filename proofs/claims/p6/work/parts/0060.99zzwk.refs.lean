section
def EX14_isDigitJ : List (Nat × Nat) := []
def EX14_hereJ : List (Nat × Nat) := []
def EX14_blanksJ : List (Nat × Nat) := [(16, 29)]
def EX14_takesJ : List (Nat × Nat) := [(16, 29)]
def EX14_digitsJ : List (Nat × Nat) := [(16, 29), (16, 31)]
def EX14_hexOfJ : List (Nat × Nat) := []
def EX14_fourJ : List (Nat × Nat) := [(16, 29), (16, 31)]
def EX14_unitJ : List (Nat × Nat) := [(16, 28), (127, 0)]
def EX14_utfLengthJ : List (Nat × Nat) := [(16, 33)]
set_option maxHeartbeats 4000000 in
set_option maxRecDepth 20000 in
theorem uX14_isDigitJ (l : Launch) (dC : Nat → ClassId) (dI : Nat → Nat → Nat) (ca : Nat → ClassId) (base : Nat) (B : jF) (hB : jBok B) (hAp : jAp (dC, dI)) (G0 : jT) (H0 : Heap) (a0 : Int32) : Met l yX14_isDigit (jw yX14_isDigit cX14_isDigit 1 (some .boolean)) ({ frames := 1, cells := 0, slots := 0, locals := 22 }) (va_Pc [.int a0] (fun U => U.heap = H0 ∧ jX B base G0 [] H0 ∧ jG dC dI ca base U ∧ jP (dC, dI) G0 H0 [] ∧ True)) (va_Qi (S := Unit) (fun r u => (r = 0 ∨ r = 1) ∧ ((r.toInt = 1 ∧ 48 ≤ a0.toInt ∧ a0.toInt ≤ 57) ∨ (r.toInt = 0 ∧ (a0.toInt < 48 ∨ 57 < a0.toInt)))) (fun u t => jRt (dC, dI) B base G0 EX14_isDigitJ H0 [] t.heap) (jA base)) 0 0 (jA base) := by
  refine Met.ofW (cc := cX14_isDigit) (maxL := 1) (ret := (some .boolean)) (by decide) rfl ?_
  intro p e s m args below meth c s₁ Bd hml hv
  obtain ⟨rfl, hH0, hX, hG, hP0, hp0⟩ := hv
  have hK := hG.1
  have hx := Bd.exec
  have hb := Bd.bytes
  have hr := Bd.returns
  have hts := atoms_spec (ws := (jw yX14_isDigit cX14_isDigit 1 (some .boolean))) Bd.pre
  have htw : ∀ w ∈ jWl, w.before _ s = true := fun w h => hts w (List.mem_cons_of_mem _ h)
  have hown : s.vm.findClass RX14 = some m.cls := findClass_of_methodNamed Bd.named
  have hlocks := Bd.notSynchronized
  obtain ⟨Q, hQ⟩ : ∃ Q, Q = MQ below (va_Qi (S := Unit) (fun r u => (r = 0 ∨ r = 1) ∧ ((r.toInt = 1 ∧ 48 ≤ a0.toInt ∧ a0.toInt ≤ 57) ∨ (r.toInt = 0 ∧ (a0.toInt < 48 ∨ 57 < a0.toInt)))) (fun u t => jRt (dC, dI) B base G0 EX14_isDigitJ H0 [] t.heap) (jA base)) ([.int a0] : List Value).toArray s 0 0 (jA base) := ⟨_, rfl⟩
  rw [← hQ]
  have hl := lv_entry ([.int a0]) (n := 1) (Nat.le_of_ble_eq_true rfl)
  rw [lg_entry_eq]
  generalize (lg_sl ([.int a0]) ++ List.replicate (1 - (lg_sl ([.int a0])).length) Slot.unset).toArray = ls at hl ⊢
  have hl : lv_has ls 1 [(0, .int a0)] := hl
  generalize hR : (headSpec (jw yX14_isDigit cX14_isDigit 1 (some .boolean)) ({ frames := 1, cells := 0, slots := 0, locals := 22 })).room = R
  subst hH0
  have hh : jSt (dC, dI) B base G0 G0 EX14_isDigitJ s.heap 0 0 [] [] [] s.heap [] := jSt.start hX hP0 jMc.nil jIs.nil
  clear hX hP0
  have hk0 : (0 : Int32).toInt = 0 := by decide
  have hk1 : (1 : Int32).toInt = 1 := by decide
  have hk48 : (48 : Int32).toInt = 48 := by decide
  have hk57 : (57 : Int32).toInt = 57 := by decide
  have hrg_a0 := jb_rng a0
  refine lv_iload_n hx hb dX14_isDigit_0 rfl (lv_at hl 0 rfl) ?_
  refine lv_bipush (v := 48) hx hb dX14_isDigit_1 (by decide) ?_
  refine lv_bipush (v := 57) hx hb dX14_isDigit_3 (by decide) ?_
  refine va_calli (A0 := jA base) (H0 := s.heap) (va_runS (As := [.int a0, .int 48, .int 57]) (rest := []) ⟨hx, hb, hml, hown, hts⟩ (uX14_in l dC dI ca base B hB hAp G0 s.heap a0 48 57) (va_cwS 3 hts (jgS (jWr_48 _ (List.mem_of_getElem? (i := 10) rfl)) (jWr_48 _ (List.mem_of_getElem? (i := 11) rfl)) (jWr_1 _ (List.mem_of_getElem? (i := 5) rfl)) (jWr_48 _ (List.mem_of_getElem? (i := 12) rfl))) rfl rfl rfl (by decide +kernel) ⟨by rw [← hR]; exact Nat.le_of_ble_eq_true rfl, by rw [← hR]; exact Nat.le_of_ble_eq_true rfl⟩) ⟨fun a U g mk q => by obtain ⟨q0, q1, q2, qK, q10, q11⟩ := q; exact ⟨q0, q1, q2, jG.calling g mk a qK, q10, q11⟩, fun U hU hW => ⟨rfl, hU, hh.2.1, hG.step hW hU hh.1, jP.nil, trivial⟩⟩ rfl rfl hl.1 rfl (lv_room (Nat.le_of_ble_eq_true rfl)) dX14_isDigit_5 ⟨Nat.zero_le _, Nat.zero_le _⟩) hh.1 (fun q _ h => h) (fun q h => h) (fun r_2 u_1 t_1 H_1 locs_1 ht_1 hvm_1 hr_2 hb_1 hz_1 hk_1 hS_1 => ?_)
  rw [ht_1] at hb_1
  obtain ⟨hb_11, hb_12, hb_13, hb_14, hb_15⟩ := hb_1
  have hh_1 : jSt (dC, dI) B base G0 G0 EX14_isDigitJ s.heap 0 0 [] [] [] H_1 locs_1 := ((hh.call hb_11 hb_12 hb_13 hb_14 hS_1 rfl (L1 := []) [] rfl rfl (M1 := []) [] rfl rfl (I1 := []) [] rfl rfl).more hb_15)
  clear hh ht_1 hvm_1 hz_1 hk_1 hS_1 hb_11 hb_12 hb_13 hb_14 hb_15
  obtain ⟨hr_2b, hr_2p⟩ := hr_2
  obtain ⟨hr_2p_0, hr_2p_1, hr_2p_2⟩ := hr_2p
  have hi9 := jIn.or a0.toInt (48 : Int32).toInt (57 : Int32).toInt
  have hr_2' := jb_01 hr_2b
  rw [hQ]
  exact W.zret (v := r_2) hx hb hr (jb_nz (hr_2b)) (fun t ht hW => ⟨⟨r_2, (), rfl, ⟨(hr_2b), by omega⟩, hh_1.rt (M1 := []) [] rfl ht⟩, by rw [ht]; try exact hh_1.1.1, fun q h9 hq => by rw [ht]; try exact hh_1.1.2.1 q h9 hq⟩) hh_1.1.2.2 dX14_isDigit_8
set_option maxHeartbeats 4000000 in
set_option maxRecDepth 20000 in
theorem uX14_hereJ (l : Launch) (dC : Nat → ClassId) (dI : Nat → Nat → Nat) (ca : Nat → ClassId) (base : Nat) (B : jF) (hB : jBok B) (hAp : jAp (dC, dI)) (hB16 : ∀ n G a H, B 16 n G a H ↔ jOb (dC, dI) 16 74 (F16 n G) a H) (hB110 : ∀ n G a H, B 110 n G a H ↔ jAr (dC, dI) (ca 1) (fun j z => 0 ≤ z.toInt ∧ z.toInt ≤ 255) n a H) (G0 : jT) (H0 : Heap) (r0 : Nat) (pt : Int32) (pe : Int32) (kp_ : Nat) (fb : Nat → Int32) : Met l yX14_here (jw yX14_here cX14_here 1 (some .int)) ({ frames := 0, cells := 0, slots := 0, locals := 0 }) (va_Pc [.ref r0] (fun U => U.heap = H0 ∧ jX B base G0 [] H0 ∧ jG dC dI ca base U ∧ G0 r0 = some (16, 0) ∧ G0 kp_ = some (110, 3300) ∧ jP (dC, dI) G0 H0 [(r0, 16, 29, .int pt), (r0, 16, 30, .int pe), (r0, 16, 9, .ref kp_)] ∧ jMc (dC, dI) G0 H0 [(kp_, 110, 3300, ca 1, fb)] ∧ 0 ≤ pt.toInt ∧ pt.toInt ≤ 90000 ∧ 0 ≤ pe.toInt ∧ pe.toInt ≤ 3000)) (va_Qi (S := Unit) (fun r u => (r.toInt = jjK (jB8 fb) pe.toInt pt.toInt ∧ -1 ≤ r.toInt ∧ r.toInt ≤ 255)) (fun u t => jRt (dC, dI) B base G0 EX14_hereJ H0 [] t.heap) (jA base)) 0 0 (jA base) := by
  refine Met.ofW (cc := cX14_here) (maxL := 1) (ret := (some .int)) (by decide) rfl ?_
  intro p e s m args below meth c s₁ Bd hml hv
  obtain ⟨rfl, hH0, hX, hG, hg_r0, hg_kp_, hP0, hM0, hp0, hp1, hp2, hp3⟩ := hv
  have hK := hG.1
  have hx := Bd.exec
  have hb := Bd.bytes
  have hr := Bd.returns
  have hts := atoms_spec (ws := (jw yX14_here cX14_here 1 (some .int))) Bd.pre
  have htw : ∀ w ∈ jWl, w.before _ s = true := fun w h => hts w (List.mem_cons_of_mem _ h)
  have hown : s.vm.findClass RX14 = some m.cls := findClass_of_methodNamed Bd.named
  have hlocks := Bd.notSynchronized
  obtain ⟨Q, hQ⟩ : ∃ Q, Q = MQ below (va_Qi (S := Unit) (fun r u => (r.toInt = jjK (jB8 fb) pe.toInt pt.toInt ∧ -1 ≤ r.toInt ∧ r.toInt ≤ 255)) (fun u t => jRt (dC, dI) B base G0 EX14_hereJ H0 [] t.heap) (jA base)) ([.ref r0] : List Value).toArray s 0 0 (jA base) := ⟨_, rfl⟩
  rw [← hQ]
  have hl := lv_entry ([.ref r0]) (n := 1) (Nat.le_of_ble_eq_true rfl)
  rw [lg_entry_eq]
  generalize (lg_sl ([.ref r0]) ++ List.replicate (1 - (lg_sl ([.ref r0])).length) Slot.unset).toArray = ls at hl ⊢
  have hl : lv_has ls 1 [(0, .ref r0)] := hl
  generalize hR : (headSpec (jw yX14_here cX14_here 1 (some .int)) ({ frames := 0, cells := 0, slots := 0, locals := 0 })).room = R
  subst hH0
  have hh : jSt (dC, dI) B base G0 G0 EX14_hereJ s.heap 0 0 [(r0, 16, 29, .int pt), (r0, 16, 30, .int pe), (r0, 16, 9, .ref kp_)] [(kp_, 110, 3300, ca 1, fb)] [] s.heap [] := jSt.start hX hP0 hM0 jIs.nil
  clear hX hP0
  have hkm1 : ((-1) : Int32).toInt = (-1) := by decide
  have hk0 : (0 : Int32).toInt = 0 := by decide
  have hk1 : (1 : Int32).toInt = 1 := by decide
  have hly_16_9 := htw (u_lay RX14 TX14 9) (jWc_wsX140 _ (u_in_lay (by decide)))
  have hly_16_29 := htw (u_lay RX14 TX14 29) (jWc_wsX140 _ (u_in_lay (by decide)))
  have hly_16_30 := htw (u_lay RX14 TX14 30) (jWc_wsX140 _ (u_in_lay (by decide)))
  have hlk_273 := (htw (.fieldLink RX14 273 "ProofServerModel" "at" "I") (jWr_50 _ (List.mem_of_getElem? (i := 5) rfl)))
  have hlk_276 := (htw (.fieldLink RX14 276 "ProofServerModel" "end" "I") (jWr_50 _ (List.mem_of_getElem? (i := 6) rfl)))
  have hlk_20 := (htw (.fieldLink RX14 20 "ProofServerModel" "kept" "[I") (jWr_10 _ (List.mem_of_getElem? (i := 21) rfl)))
  refine lv_aload_n hx hb dX14_here_0 rfl (lv_at hl 0 rfl) ?_
  refine j7_read hx hb hown hK (C := RX14) (T := TX14) (N := 74) rfl hly_16_29 hlk_273 (hh.at 0 rfl) dX14_here_1 ?_
  refine lv_aload_n hx hb dX14_here_4 rfl (lv_at hl 0 rfl) ?_
  refine j7_read hx hb hown hK (C := RX14) (T := TX14) (N := 74) rfl hly_16_30 hlk_276 (hh.at 1 rfl) dX14_here_5 ?_
  refine lv_icmp_ge (tgt := 23) hx hb dX14_here_8 (by decide) (fun c_1 => ?_) (fun c_1 => ?_)
  · skip
    have c_1' : pt.toInt ≥ pe.toInt := jb_ge (rfl) (rfl) c_1
    refine lv_iconst (v := (-1)) hx hb dX14_here_23 (by decide) ?_
    rw [hQ]
    exact W.iret (v := (-1)) hx hb hr (fun t ht hW => ⟨⟨(-1), (), rfl, by refine ⟨?_, by omega, by omega⟩; rw [jjK.n (by omega)]; exact hkm1, hh.rt (M1 := []) [] rfl ht⟩, by rw [ht]; try exact hh.1.1, fun q h9 hq => by rw [ht]; try exact hh.1.2.1 q h9 hq⟩) hh.1.2.2 dX14_here_24
  · skip
    have c_1' : pt.toInt < pe.toInt := jb_ge_n (rfl) (rfl) c_1
    refine lv_aload_n hx hb dX14_here_11 rfl (lv_at hl 0 rfl) ?_
    refine j7_read hx hb hown hK (C := RX14) (T := TX14) (N := 74) rfl hly_16_9 hlk_20 (hh.at 2 rfl) dX14_here_12 ?_
    refine lv_aload_n hx hb dX14_here_15 rfl (lv_at hl 0 rfl) ?_
    refine j7_read hx hb hown hK (C := RX14) (T := TX14) (N := 74) rfl hly_16_29 hlk_273 (hh.at 0 rfl) dX14_here_16 ?_
    refine j7_ialdM hx hb hK hh hB110 1 rfl (by decide) hg_kp_ (x := pt.toInt) (rfl) (by omega) (j := 0) rfl dX14_here_19 (fun z_2 ez_2 (hz_2 : 0 ≤ z_2.toInt ∧ z_2.toInt ≤ 255) => ?_)
    have hqz_2 : z_2.toInt = jSo fb (pt.toInt) := by unfold jSo; rw [ez_2]
    refine lv_goto (tgt := 24) hx hb dX14_here_20 (by decide) ?_
    rw [hQ]
    exact W.iret (v := z_2) hx hb hr (fun t ht hW => ⟨⟨z_2, (), rfl, by refine ⟨?_, by omega, by omega⟩; rw [jjK.y (by omega)]; unfold jB8; rw [← hqz_2]; omega, hh.rt (M1 := []) [] rfl ht⟩, by rw [ht]; try exact hh.1.1, fun q h9 hq => by rw [ht]; try exact hh.1.2.1 q h9 hq⟩) hh.1.2.2 dX14_here_24
set_option maxHeartbeats 4000000 in
set_option maxRecDepth 20000 in
theorem uX14_blanksJ (l : Launch) (dC : Nat → ClassId) (dI : Nat → Nat → Nat) (ca : Nat → ClassId) (base : Nat) (B : jF) (hB : jBok B) (hAp : jAp (dC, dI)) (hB16 : ∀ n G a H, B 16 n G a H ↔ jOb (dC, dI) 16 74 (F16 n G) a H) (hB110 : ∀ n G a H, B 110 n G a H ↔ jAr (dC, dI) (ca 1) (fun j z => 0 ≤ z.toInt ∧ z.toInt ≤ 255) n a H) (G0 : jT) (H0 : Heap) (r0 : Nat) (pt : Int32) (pe : Int32) (kp_ : Nat) (kb : Int) (fb : Nat → Int32) : Met l yX14_blanks (jw yX14_blanks cX14_blanks 1 none) ({ frames := 1, cells := 0, slots := 0, locals := 20 }) (va_Pc [.ref r0] (fun U => U.heap = H0 ∧ jX B base G0 [] H0 ∧ jG dC dI ca base U ∧ G0 r0 = some (16, 0) ∧ G0 kp_ = some (110, 3300) ∧ jP (dC, dI) G0 H0 [(r0, 16, 29, .int pt), (r0, 16, 30, .int pe), (r0, 16, 9, .ref kp_)] ∧ jMc (dC, dI) G0 H0 [(kp_, 110, 3300, ca 1, fb)] ∧ 0 ≤ pt.toInt ∧ pt.toInt ≤ 90000 ∧ 0 ≤ pe.toInt ∧ pe.toInt ≤ 3000 ∧ pt.toInt ≤ kb ∧ pe.toInt ≤ kb ∧ kb ≤ 90000)) (va_Qv (S := Int32) (fun u => u.toInt = jjSk (jB8 fb) pe.toInt pt.toInt ∧ pt.toInt ≤ u.toInt ∧ u.toInt ≤ kb) (fun u t => jRt (dC, dI) B base G0 EX14_blanksJ H0 [(r0, 16, 29, .int u)] t.heap) (jA base)) 0 0 (jA base) := by
  refine Met.ofW (cc := cX14_blanks) (maxL := 1) (ret := none) (by decide) rfl ?_
  intro p e s m args below meth c s₁ Bd hml hv
  obtain ⟨rfl, hH0, hX, hG, hg_r0, hg_kp_, hP0, hM0, hp0, hp1, hp2, hp3, hp4, hp5, hp6⟩ := hv
  have hK := hG.1
  have hx := Bd.exec
  have hb := Bd.bytes
  have hr := Bd.returns
  have hts := atoms_spec (ws := (jw yX14_blanks cX14_blanks 1 none)) Bd.pre
  have htw : ∀ w ∈ jWl, w.before _ s = true := fun w h => hts w (List.mem_cons_of_mem _ h)
  have hown : s.vm.findClass RX14 = some m.cls := findClass_of_methodNamed Bd.named
  have hlocks := Bd.notSynchronized
  obtain ⟨Q, hQ⟩ : ∃ Q, Q = MQ below (va_Qv (S := Int32) (fun u => u.toInt = jjSk (jB8 fb) pe.toInt pt.toInt ∧ pt.toInt ≤ u.toInt ∧ u.toInt ≤ kb) (fun u t => jRt (dC, dI) B base G0 EX14_blanksJ H0 [(r0, 16, 29, .int u)] t.heap) (jA base)) ([.ref r0] : List Value).toArray s 0 0 (jA base) := ⟨_, rfl⟩
  rw [← hQ]
  have hl := lv_entry ([.ref r0]) (n := 1) (Nat.le_of_ble_eq_true rfl)
  rw [lg_entry_eq]
  generalize (lg_sl ([.ref r0]) ++ List.replicate (1 - (lg_sl ([.ref r0])).length) Slot.unset).toArray = ls at hl ⊢
  have hl : lv_has ls 1 [(0, .ref r0)] := hl
  generalize hR : (headSpec (jw yX14_blanks cX14_blanks 1 none) ({ frames := 1, cells := 0, slots := 0, locals := 20 })).room = R
  subst hH0
  have hh : jSt (dC, dI) B base G0 G0 EX14_blanksJ s.heap 0 0 [(r0, 16, 29, .int pt), (r0, 16, 30, .int pe), (r0, 16, 9, .ref kp_)] [(kp_, 110, 3300, ca 1, fb)] [] s.heap [] := jSt.start hX hP0 hM0 jIs.nil
  clear hX hP0
  have hk0 : (0 : Int32).toInt = 0 := by decide
  have hk1 : (1 : Int32).toInt = 1 := by decide
  have hk9 : (9 : Int32).toInt = 9 := by decide
  have hk10 : (10 : Int32).toInt = 10 := by decide
  have hk13 : (13 : Int32).toInt = 13 := by decide
  have hk32 : (32 : Int32).toInt = 32 := by decide
  have hly_16_29 := htw (u_lay RX14 TX14 29) (jWc_wsX140 _ (u_in_lay (by decide)))
  have hlk_273 := (htw (.fieldLink RX14 273 "ProofServerModel" "at" "I") (jWr_50 _ (List.mem_of_getElem? (i := 5) rfl)))
  have L0 : ∀ (N : Nat) (wt_1 : Int32) (kf : Nat) (H_1 : Heap) (locs_1 : List Loc), jSt (dC, dI) B base G0 G0 EX14_blanksJ s.heap 0 0 [(r0, 16, 29, .int wt_1), (r0, 16, 30, .int pe), (r0, 16, 9, .ref kp_)] [(kp_, 110, 3300, ca 1, fb)] [] H_1 locs_1 → (pt.toInt ≤ wt_1.toInt ∧ wt_1.toInt ≤ kb ∧ pe.toInt - wt_1.toInt ≤ kf ∧ jjB (jB8 fb) pe.toInt kf wt_1.toInt = jjSk (jB8 fb) pe.toInt pt.toInt) → (((pe.toInt - wt_1.toInt).toNat : Int) : Int) < N → ∀ ls : Array Slot, lv_has ls 1 [(0, .ref r0)] → W p l e R s m ([.ref r0] : List Value).toArray below meth c H_1 locs_1 0 0 Q (F0 m 0 ls []) := by
    intro N
    induction N with
    | zero => intro wt_1 kf H_1 locs_1 hh_1  hi_1 hm; exact absurd hm (by omega)
    | succ N L0 =>
      intro wt_1 kf H_1 locs_1 hh_1  hi_1 hm_1 ls hl
      obtain ⟨hi_1_0, hi_1_1, hi_1_2, hi_1_3⟩ := hi_1
      refine lv_aload_n hx hb dX14_blanks_0 rfl (lv_at hl 0 rfl) ?_
      refine va_calli (A0 := jA base) (H0 := s.heap) (va_runV (As := []) (rest := []) ⟨hx, hb, hml, hown, hts⟩ (uX14_hereJ l dC dI ca base B hB hAp hB16 hB110 G0 H_1 r0 wt_1 pe kp_ fb) (cwV 0 hts (jgV (jWr_50 _ (List.mem_of_getElem? (i := 20) rfl)) (jWr_50 _ (List.mem_of_getElem? (i := 21) rfl)) (jWr_50 _ (List.mem_of_getElem? (i := 22) rfl)) (jWr_1 _ (List.mem_of_getElem? (i := 5) rfl)) (jWr_50 _ (List.mem_of_getElem? (i := 23) rfl))) rfl rfl rfl (by decide +kernel) ⟨by rw [← hR]; exact Nat.le_of_ble_eq_true rfl, by rw [← hR]; exact Nat.le_of_ble_eq_true rfl⟩) ⟨fun a U g mk q => by obtain ⟨q0, q1, q2, qK, q10, q11, q12, q13, q14⟩ := q; exact ⟨q0, q1, q2, jG.calling g mk a qK, q10, q11, q12, q13, q14⟩, hh_1.recv (C := RX14) (T := TX14) (N := 74) hB16 rfl (by decide) hg_r0 hK, fun U hU hW => ⟨rfl, hU, hh_1.2.1, hG.step hW hU hh_1.1, hg_r0, hg_kp_, (hh_1.2.2.1.sub (L1 := [(r0, 16, 29, .int wt_1), (r0, 16, 30, .int pe), (r0, 16, 9, .ref kp_)]) [0, 1, 2] rfl), (hh_1.2.2.2.2.2.2.2.1.sub (L1 := [(kp_, 110, 3300, ca 1, fb)]) [0] rfl), by first | omega | (refine ⟨?_, ?_, ?_, ?_⟩ <;> (first | omega | rfl | assumption | decide | exact Or.inl rfl | exact Or.inr rfl | (simp only; omega)))⟩⟩ rfl rfl hl.1 rfl (lv_room (Nat.le_of_ble_eq_true rfl)) dX14_blanks_1 ⟨Nat.zero_le _, Nat.zero_le _⟩) hh_1.1 (fun q _ h => h) (fun q h => h) (fun r_3 u_2 t_2 H_2 locs_2 ht_2 hvm_2 hr_3 hb_2 hz_2 hk_2 hS_2 => ?_)
      rw [ht_2] at hb_2
      obtain ⟨hb_21, hb_22, hb_23, hb_24, hb_25⟩ := hb_2
      have hh_2 : jSt (dC, dI) B base G0 G0 EX14_blanksJ s.heap 0 0 [(r0, 16, 29, .int wt_1), (r0, 16, 30, .int pe), (r0, 16, 9, .ref kp_)] [(kp_, 110, 3300, ca 1, fb)] [] H_2 locs_2 := ((hh_1.call hb_21 hb_22 hb_23 hb_24 hS_2 rfl (L1 := [(r0, 16, 29, .int wt_1), (r0, 16, 30, .int pe), (r0, 16, 9, .ref kp_)]) [0, 1, 2] rfl rfl (M1 := [(kp_, 110, 3300, ca 1, fb)]) [0] rfl rfl (I1 := []) [] rfl rfl).more hb_25)
      clear hh_1 ht_2 hvm_2 hz_2 hk_2 hS_2 hb_21 hb_22 hb_23 hb_24 hb_25
      obtain ⟨hr_3_0, hr_3_1, hr_3_2⟩ := hr_3
      refine lv_bipush (v := 32) hx hb dX14_blanks_4 (by decide) ?_
      refine lv_icmp_eq (tgt := 36) hx hb dX14_blanks_6 (by decide) (fun c_4 => ?_) (fun c_4 => ?_)
      · skip
        have c_4' : r_3.toInt = 32 := jb_eq (rfl) ((by decide)) c_4
        have hlt9 := jjK.lt hr_3_0 (by omega)
        refine lv_aload_n hx hb dX14_blanks_36 rfl (lv_at hl 0 rfl) ?_
        refine lv_dup hx hb dX14_blanks_37 rfl ?_
        refine j7_read hx hb hown hK (C := RX14) (T := TX14) (N := 74) rfl hly_16_29 hlk_273 (hh_2.at 0 rfl) dX14_blanks_38 ?_
        refine lv_iconst (v := 1) hx hb dX14_blanks_41 (by decide) ?_
        refine lv_iadd hx hb dX14_blanks_42 ?_
        refine lv_topi (fun z_5 ez_5 => ?_)
        have hz_5 : z_5.toInt = wt_1.toInt + 1 := by rw [ez_5]; exact jb_iadd2 (rfl) ((by decide)) (by omega)
        refine j7_put hx hb hown hK hh_2 hB hAp hB16 (C := RX14) (T := TX14) (N := 74) rfl (by decide) hg_r0 (i := 29) (by decide) hly_16_29 rfl hlk_273 rfl (ty := .int) (v := .int z_5) (by decide +kernel) rfl rfl (⟨_, rfl, by omega, by omega⟩) rfl (L1 := [(r0, 16, 30, .int pe), (r0, 16, 9, .ref kp_)]) [1, 2] rfl rfl rfl dX14_blanks_43 (fun H_6 locs_6 hh_6 => ?_)
        clear hh_2
        refine lv_goto (tgt := 0) hx hb dX14_blanks_46 (by decide) ?_
        exact L0 z_5 (kf - 1) _ _ hh_6 (by have hlt := jjK.lt hr_3_0 (by omega); refine ⟨by omega, by omega, by omega, ?_⟩; exact (jjB_c hr_3_0 (by omega) (by omega) (by omega)).trans hi_1_3) (by omega) _ (lv_sub hl [0] rfl)
      · skip
        have c_4' : r_3.toInt ≠ 32 := jb_eq_n (rfl) ((by decide)) c_4
        refine lv_aload_n hx hb dX14_blanks_9 rfl (lv_at hl 0 rfl) ?_
        refine va_calli (A0 := jA base) (H0 := s.heap) (va_runV (As := []) (rest := []) ⟨hx, hb, hml, hown, hts⟩ (uX14_hereJ l dC dI ca base B hB hAp hB16 hB110 G0 H_2 r0 wt_1 pe kp_ fb) (cwV 0 hts (jgV (jWr_50 _ (List.mem_of_getElem? (i := 20) rfl)) (jWr_50 _ (List.mem_of_getElem? (i := 21) rfl)) (jWr_50 _ (List.mem_of_getElem? (i := 22) rfl)) (jWr_1 _ (List.mem_of_getElem? (i := 5) rfl)) (jWr_50 _ (List.mem_of_getElem? (i := 23) rfl))) rfl rfl rfl (by decide +kernel) ⟨by rw [← hR]; exact Nat.le_of_ble_eq_true rfl, by rw [← hR]; exact Nat.le_of_ble_eq_true rfl⟩) ⟨fun a U g mk q => by obtain ⟨q0, q1, q2, qK, q10, q11, q12, q13, q14⟩ := q; exact ⟨q0, q1, q2, jG.calling g mk a qK, q10, q11, q12, q13, q14⟩, hh_2.recv (C := RX14) (T := TX14) (N := 74) hB16 rfl (by decide) hg_r0 hK, fun U hU hW => ⟨rfl, hU, hh_2.2.1, hG.step hW hU hh_2.1, hg_r0, hg_kp_, (hh_2.2.2.1.sub (L1 := [(r0, 16, 29, .int wt_1), (r0, 16, 30, .int pe), (r0, 16, 9, .ref kp_)]) [0, 1, 2] rfl), (hh_2.2.2.2.2.2.2.2.1.sub (L1 := [(kp_, 110, 3300, ca 1, fb)]) [0] rfl), by first | omega | (refine ⟨?_, ?_, ?_, ?_⟩ <;> (first | omega | rfl | assumption | decide | exact Or.inl rfl | exact Or.inr rfl | (simp only; omega)))⟩⟩ rfl rfl hl.1 rfl (lv_room (Nat.le_of_ble_eq_true rfl)) dX14_blanks_10 ⟨Nat.zero_le _, Nat.zero_le _⟩) hh_2.1 (fun q _ h => h) (fun q h => h) (fun r_8 u_7 t_7 H_7 locs_7 ht_7 hvm_7 hr_8 hb_7 hz_7 hk_7 hS_7 => ?_)
        rw [ht_7] at hb_7
        obtain ⟨hb_71, hb_72, hb_73, hb_74, hb_75⟩ := hb_7
        have hh_7 : jSt (dC, dI) B base G0 G0 EX14_blanksJ s.heap 0 0 [(r0, 16, 29, .int wt_1), (r0, 16, 30, .int pe), (r0, 16, 9, .ref kp_)] [(kp_, 110, 3300, ca 1, fb)] [] H_7 locs_7 := ((hh_2.call hb_71 hb_72 hb_73 hb_74 hS_7 rfl (L1 := [(r0, 16, 29, .int wt_1), (r0, 16, 30, .int pe), (r0, 16, 9, .ref kp_)]) [0, 1, 2] rfl rfl (M1 := [(kp_, 110, 3300, ca 1, fb)]) [0] rfl rfl (I1 := []) [] rfl rfl).more hb_75)
        clear hh_2 ht_7 hvm_7 hz_7 hk_7 hS_7 hb_71 hb_72 hb_73 hb_74 hb_75
        obtain ⟨hr_8_0, hr_8_1, hr_8_2⟩ := hr_8
        refine lv_bipush (v := 9) hx hb dX14_blanks_13 (by decide) ?_
        refine lv_icmp_eq (tgt := 36) hx hb dX14_blanks_15 (by decide) (fun c_9 => ?_) (fun c_9 => ?_)
        · skip
          have c_9' : r_8.toInt = 9 := jb_eq (rfl) ((by decide)) c_9
          have hlt9 := jjK.lt hr_8_0 (by omega)
          refine lv_aload_n hx hb dX14_blanks_36 rfl (lv_at hl 0 rfl) ?_
          refine lv_dup hx hb dX14_blanks_37 rfl ?_
          refine j7_read hx hb hown hK (C := RX14) (T := TX14) (N := 74) rfl hly_16_29 hlk_273 (hh_7.at 0 rfl) dX14_blanks_38 ?_
          refine lv_iconst (v := 1) hx hb dX14_blanks_41 (by decide) ?_
          refine lv_iadd hx hb dX14_blanks_42 ?_
          refine lv_topi (fun z_10 ez_10 => ?_)
          have hz_10 : z_10.toInt = wt_1.toInt + 1 := by rw [ez_10]; exact jb_iadd2 (rfl) ((by decide)) (by omega)
          refine j7_put hx hb hown hK hh_7 hB hAp hB16 (C := RX14) (T := TX14) (N := 74) rfl (by decide) hg_r0 (i := 29) (by decide) hly_16_29 rfl hlk_273 rfl (ty := .int) (v := .int z_10) (by decide +kernel) rfl rfl (⟨_, rfl, by omega, by omega⟩) rfl (L1 := [(r0, 16, 30, .int pe), (r0, 16, 9, .ref kp_)]) [1, 2] rfl rfl rfl dX14_blanks_43 (fun H_11 locs_11 hh_11 => ?_)
          clear hh_7
          refine lv_goto (tgt := 0) hx hb dX14_blanks_46 (by decide) ?_
          exact L0 z_10 (kf - 1) _ _ hh_11 (by have hlt := jjK.lt hr_8_0 (by omega); refine ⟨by omega, by omega, by omega, ?_⟩; exact (jjB_c hr_8_0 (by omega) (by omega) (by omega)).trans hi_1_3) (by omega) _ (lv_sub hl [0] rfl)
        · skip
          have c_9' : r_8.toInt ≠ 9 := jb_eq_n (rfl) ((by decide)) c_9
          refine lv_aload_n hx hb dX14_blanks_18 rfl (lv_at hl 0 rfl) ?_
          refine va_calli (A0 := jA base) (H0 := s.heap) (va_runV (As := []) (rest := []) ⟨hx, hb, hml, hown, hts⟩ (uX14_hereJ l dC dI ca base B hB hAp hB16 hB110 G0 H_7 r0 wt_1 pe kp_ fb) (cwV 0 hts (jgV (jWr_50 _ (List.mem_of_getElem? (i := 20) rfl)) (jWr_50 _ (List.mem_of_getElem? (i := 21) rfl)) (jWr_50 _ (List.mem_of_getElem? (i := 22) rfl)) (jWr_1 _ (List.mem_of_getElem? (i := 5) rfl)) (jWr_50 _ (List.mem_of_getElem? (i := 23) rfl))) rfl rfl rfl (by decide +kernel) ⟨by rw [← hR]; exact Nat.le_of_ble_eq_true rfl, by rw [← hR]; exact Nat.le_of_ble_eq_true rfl⟩) ⟨fun a U g mk q => by obtain ⟨q0, q1, q2, qK, q10, q11, q12, q13, q14⟩ := q; exact ⟨q0, q1, q2, jG.calling g mk a qK, q10, q11, q12, q13, q14⟩, hh_7.recv (C := RX14) (T := TX14) (N := 74) hB16 rfl (by decide) hg_r0 hK, fun U hU hW => ⟨rfl, hU, hh_7.2.1, hG.step hW hU hh_7.1, hg_r0, hg_kp_, (hh_7.2.2.1.sub (L1 := [(r0, 16, 29, .int wt_1), (r0, 16, 30, .int pe), (r0, 16, 9, .ref kp_)]) [0, 1, 2] rfl), (hh_7.2.2.2.2.2.2.2.1.sub (L1 := [(kp_, 110, 3300, ca 1, fb)]) [0] rfl), by first | omega | (refine ⟨?_, ?_, ?_, ?_⟩ <;> (first | omega | rfl | assumption | decide | exact Or.inl rfl | exact Or.inr rfl | (simp only; omega)))⟩⟩ rfl rfl hl.1 rfl (lv_room (Nat.le_of_ble_eq_true rfl)) dX14_blanks_19 ⟨Nat.zero_le _, Nat.zero_le _⟩) hh_7.1 (fun q _ h => h) (fun q h => h) (fun r_13 u_12 t_12 H_12 locs_12 ht_12 hvm_12 hr_13 hb_12 hz_12 hk_12 hS_12 => ?_)
          rw [ht_12] at hb_12
          obtain ⟨hb_121, hb_122, hb_123, hb_124, hb_125⟩ := hb_12
          have hh_12 : jSt (dC, dI) B base G0 G0 EX14_blanksJ s.heap 0 0 [(r0, 16, 29, .int wt_1), (r0, 16, 30, .int pe), (r0, 16, 9, .ref kp_)] [(kp_, 110, 3300, ca 1, fb)] [] H_12 locs_12 := ((hh_7.call hb_121 hb_122 hb_123 hb_124 hS_12 rfl (L1 := [(r0, 16, 29, .int wt_1), (r0, 16, 30, .int pe), (r0, 16, 9, .ref kp_)]) [0, 1, 2] rfl rfl (M1 := [(kp_, 110, 3300, ca 1, fb)]) [0] rfl rfl (I1 := []) [] rfl rfl).more hb_125)
          clear hh_7 ht_12 hvm_12 hz_12 hk_12 hS_12 hb_121 hb_122 hb_123 hb_124 hb_125
          obtain ⟨hr_13_0, hr_13_1, hr_13_2⟩ := hr_13
          refine lv_bipush (v := 10) hx hb dX14_blanks_22 (by decide) ?_
          refine lv_icmp_eq (tgt := 36) hx hb dX14_blanks_24 (by decide) (fun c_14 => ?_) (fun c_14 => ?_)
          · skip
            have c_14' : r_13.toInt = 10 := jb_eq (rfl) ((by decide)) c_14
            have hlt9 := jjK.lt hr_13_0 (by omega)
            refine lv_aload_n hx hb dX14_blanks_36 rfl (lv_at hl 0 rfl) ?_
            refine lv_dup hx hb dX14_blanks_37 rfl ?_
            refine j7_read hx hb hown hK (C := RX14) (T := TX14) (N := 74) rfl hly_16_29 hlk_273 (hh_12.at 0 rfl) dX14_blanks_38 ?_
            refine lv_iconst (v := 1) hx hb dX14_blanks_41 (by decide) ?_
            refine lv_iadd hx hb dX14_blanks_42 ?_
            refine lv_topi (fun z_15 ez_15 => ?_)
            have hz_15 : z_15.toInt = wt_1.toInt + 1 := by rw [ez_15]; exact jb_iadd2 (rfl) ((by decide)) (by omega)
            refine j7_put hx hb hown hK hh_12 hB hAp hB16 (C := RX14) (T := TX14) (N := 74) rfl (by decide) hg_r0 (i := 29) (by decide) hly_16_29 rfl hlk_273 rfl (ty := .int) (v := .int z_15) (by decide +kernel) rfl rfl (⟨_, rfl, by omega, by omega⟩) rfl (L1 := [(r0, 16, 30, .int pe), (r0, 16, 9, .ref kp_)]) [1, 2] rfl rfl rfl dX14_blanks_43 (fun H_16 locs_16 hh_16 => ?_)
            clear hh_12
            refine lv_goto (tgt := 0) hx hb dX14_blanks_46 (by decide) ?_
            exact L0 z_15 (kf - 1) _ _ hh_16 (by have hlt := jjK.lt hr_13_0 (by omega); refine ⟨by omega, by omega, by omega, ?_⟩; exact (jjB_c hr_13_0 (by omega) (by omega) (by omega)).trans hi_1_3) (by omega) _ (lv_sub hl [0] rfl)
          · skip
            have c_14' : r_13.toInt ≠ 10 := jb_eq_n (rfl) ((by decide)) c_14
            refine lv_aload_n hx hb dX14_blanks_27 rfl (lv_at hl 0 rfl) ?_
            refine va_calli (A0 := jA base) (H0 := s.heap) (va_runV (As := []) (rest := []) ⟨hx, hb, hml, hown, hts⟩ (uX14_hereJ l dC dI ca base B hB hAp hB16 hB110 G0 H_12 r0 wt_1 pe kp_ fb) (cwV 0 hts (jgV (jWr_50 _ (List.mem_of_getElem? (i := 20) rfl)) (jWr_50 _ (List.mem_of_getElem? (i := 21) rfl)) (jWr_50 _ (List.mem_of_getElem? (i := 22) rfl)) (jWr_1 _ (List.mem_of_getElem? (i := 5) rfl)) (jWr_50 _ (List.mem_of_getElem? (i := 23) rfl))) rfl rfl rfl (by decide +kernel) ⟨by rw [← hR]; exact Nat.le_of_ble_eq_true rfl, by rw [← hR]; exact Nat.le_of_ble_eq_true rfl⟩) ⟨fun a U g mk q => by obtain ⟨q0, q1, q2, qK, q10, q11, q12, q13, q14⟩ := q; exact ⟨q0, q1, q2, jG.calling g mk a qK, q10, q11, q12, q13, q14⟩, hh_12.recv (C := RX14) (T := TX14) (N := 74) hB16 rfl (by decide) hg_r0 hK, fun U hU hW => ⟨rfl, hU, hh_12.2.1, hG.step hW hU hh_12.1, hg_r0, hg_kp_, (hh_12.2.2.1.sub (L1 := [(r0, 16, 29, .int wt_1), (r0, 16, 30, .int pe), (r0, 16, 9, .ref kp_)]) [0, 1, 2] rfl), (hh_12.2.2.2.2.2.2.2.1.sub (L1 := [(kp_, 110, 3300, ca 1, fb)]) [0] rfl), by first | omega | (refine ⟨?_, ?_, ?_, ?_⟩ <;> (first | omega | rfl | assumption | decide | exact Or.inl rfl | exact Or.inr rfl | (simp only; omega)))⟩⟩ rfl rfl hl.1 rfl (lv_room (Nat.le_of_ble_eq_true rfl)) dX14_blanks_28 ⟨Nat.zero_le _, Nat.zero_le _⟩) hh_12.1 (fun q _ h => h) (fun q h => h) (fun r_18 u_17 t_17 H_17 locs_17 ht_17 hvm_17 hr_18 hb_17 hz_17 hk_17 hS_17 => ?_)
            rw [ht_17] at hb_17
            obtain ⟨hb_171, hb_172, hb_173, hb_174, hb_175⟩ := hb_17
            have hh_17 : jSt (dC, dI) B base G0 G0 EX14_blanksJ s.heap 0 0 [(r0, 16, 29, .int wt_1), (r0, 16, 30, .int pe), (r0, 16, 9, .ref kp_)] [(kp_, 110, 3300, ca 1, fb)] [] H_17 locs_17 := ((hh_12.call hb_171 hb_172 hb_173 hb_174 hS_17 rfl (L1 := [(r0, 16, 29, .int wt_1), (r0, 16, 30, .int pe), (r0, 16, 9, .ref kp_)]) [0, 1, 2] rfl rfl (M1 := [(kp_, 110, 3300, ca 1, fb)]) [0] rfl rfl (I1 := []) [] rfl rfl).more hb_175)
            clear hh_12 ht_17 hvm_17 hz_17 hk_17 hS_17 hb_171 hb_172 hb_173 hb_174 hb_175
            obtain ⟨hr_18_0, hr_18_1, hr_18_2⟩ := hr_18
            refine lv_bipush (v := 13) hx hb dX14_blanks_31 (by decide) ?_
            refine lv_icmp_ne (tgt := 49) hx hb dX14_blanks_33 (by decide) (fun c_19 => ?_) (fun c_19 => ?_)
            · skip
              have c_19' : r_18.toInt ≠ 13 := jb_ne (rfl) ((by decide)) c_19
              rw [hQ]
              exact W.vret hx hb hr (fun t ht hW => ⟨⟨wt_1, rfl, by (try dsimp only); refine ⟨?_, by omega, by omega⟩; exact (jjB_k hr_3_0 (by omega) (by omega) (by omega) (by omega)).symm.trans hi_1_3, hh_17.rt (M1 := [(r0, 16, 29, .int wt_1)]) [0] rfl ht⟩, by rw [ht]; try exact hh_17.1.1, fun q h9 hq => by rw [ht]; try exact hh_17.1.2.1 q h9 hq⟩) hh_17.1.2.2 dX14_blanks_49
            · skip
              have c_19' : r_18.toInt = 13 := jb_ne_n (rfl) ((by decide)) c_19
              have hlt9 := jjK.lt hr_18_0 (by omega)
              refine lv_aload_n hx hb dX14_blanks_36 rfl (lv_at hl 0 rfl) ?_
              refine lv_dup hx hb dX14_blanks_37 rfl ?_
              refine j7_read hx hb hown hK (C := RX14) (T := TX14) (N := 74) rfl hly_16_29 hlk_273 (hh_17.at 0 rfl) dX14_blanks_38 ?_
              refine lv_iconst (v := 1) hx hb dX14_blanks_41 (by decide) ?_
              refine lv_iadd hx hb dX14_blanks_42 ?_
              refine lv_topi (fun z_20 ez_20 => ?_)
              have hz_20 : z_20.toInt = wt_1.toInt + 1 := by rw [ez_20]; exact jb_iadd2 (rfl) ((by decide)) (by omega)
              refine j7_put hx hb hown hK hh_17 hB hAp hB16 (C := RX14) (T := TX14) (N := 74) rfl (by decide) hg_r0 (i := 29) (by decide) hly_16_29 rfl hlk_273 rfl (ty := .int) (v := .int z_20) (by decide +kernel) rfl rfl (⟨_, rfl, by omega, by omega⟩) rfl (L1 := [(r0, 16, 30, .int pe), (r0, 16, 9, .ref kp_)]) [1, 2] rfl rfl rfl dX14_blanks_43 (fun H_21 locs_21 hh_21 => ?_)
              clear hh_17
              refine lv_goto (tgt := 0) hx hb dX14_blanks_46 (by decide) ?_
              exact L0 z_20 (kf - 1) _ _ hh_21 (by have hlt := jjK.lt hr_18_0 (by omega); refine ⟨by omega, by omega, by omega, ?_⟩; exact (jjB_c hr_18_0 (by omega) (by omega) (by omega)).trans hi_1_3) (by omega) _ (lv_sub hl [0] rfl)
  exact L0 (((pe.toInt - (pt : Int32).toInt).toNat : Int) : Int).toNat.succ pt ((pe.toInt - pt.toInt).toNat) _ _ hh (by refine ⟨by omega, by omega, by omega, rfl⟩) (by omega) _ (lv_sub hl [0] rfl)
set_option maxHeartbeats 4000000 in
set_option maxRecDepth 20000 in
theorem uX14_takesJ (l : Launch) (dC : Nat → ClassId) (dI : Nat → Nat → Nat) (ca : Nat → ClassId) (base : Nat) (B : jF) (hB : jBok B) (hAp : jAp (dC, dI)) (hB16 : ∀ n G a H, B 16 n G a H ↔ jOb (dC, dI) 16 74 (F16 n G) a H) (hB110 : ∀ n G a H, B 110 n G a H ↔ jAr (dC, dI) (ca 1) (fun j z => 0 ≤ z.toInt ∧ z.toInt ≤ 255) n a H) (G0 : jT) (H0 : Heap) (r0 : Nat) (r1 : Nat) (n1 : Nat) (f1 : Nat → Int32) (pt : Int32) (pe : Int32) (kp_ : Nat) (fb : Nat → Int32) : Met l yX14_takes (jw yX14_takes cX14_takes 3 (some .boolean)) ({ frames := 4, cells := 0, slots := 0, locals := 141 }) (va_Pc [.ref r0, .ref r1] (fun U => U.heap = H0 ∧ jX B base G0 [] H0 ∧ jG dC dI ca base U ∧ jStrF base r1 n1 f1 U H0 ∧ G0 r0 = some (16, 0) ∧ G0 kp_ = some (110, 3300) ∧ jP (dC, dI) G0 H0 [(r0, 16, 29, .int pt), (r0, 16, 30, .int pe), (r0, 16, 9, .ref kp_)] ∧ jMc (dC, dI) G0 H0 [(kp_, 110, 3300, ca 1, fb)] ∧ 0 ≤ pt.toInt ∧ pt.toInt ≤ 90000 ∧ 0 ≤ pe.toInt ∧ pe.toInt ≤ 3000 ∧ 1 ≤ n1 ∧ n1 ≤ 1000 ∧ pt.toInt ≤ pe.toInt ∧ jjAs f1 n1)) (va_Qi (S := Int32) (fun r u => (r = 0 ∨ r = 1) ∧ (r.toInt = jjW (jB8 fb) pe.toInt f1 n1 pt.toInt ∧ ((r.toInt = 1 ∧ u.toInt = pt.toInt + n1 ∧ u.toInt ≤ pe.toInt) ∨ (r.toInt = 0 ∧ u.toInt = pt.toInt)))) (fun u t => jRt (dC, dI) B base G0 EX14_takesJ H0 [(r0, 16, 29, .int u)] t.heap) (jA base)) 0 0 (jA base) := by
  refine Met.ofW (cc := cX14_takes) (maxL := 3) (ret := (some .boolean)) (by decide) rfl ?_
  intro p e s m args below meth c s₁ Bd hml hv
  obtain ⟨rfl, hH0, hX, hG, hstrF_r1, hg_r0, hg_kp_, hP0, hM0, hp0, hp1, hp2, hp3, hp4, hp5, hp6, hp7⟩ := hv
  have hK := hG.1
  have hx := Bd.exec
  have hb := Bd.bytes
  have hr := Bd.returns
  have hts := atoms_spec (ws := (jw yX14_takes cX14_takes 3 (some .boolean))) Bd.pre
  have htw : ∀ w ∈ jWl, w.before _ s = true := fun w h => hts w (List.mem_cons_of_mem _ h)
  have hown : s.vm.findClass RX14 = some m.cls := findClass_of_methodNamed Bd.named
  have hlocks := Bd.notSynchronized
  obtain ⟨Q, hQ⟩ : ∃ Q, Q = MQ below (va_Qi (S := Int32) (fun r u => (r = 0 ∨ r = 1) ∧ (r.toInt = jjW (jB8 fb) pe.toInt f1 n1 pt.toInt ∧ ((r.toInt = 1 ∧ u.toInt = pt.toInt + n1 ∧ u.toInt ≤ pe.toInt) ∨ (r.toInt = 0 ∧ u.toInt = pt.toInt)))) (fun u t => jRt (dC, dI) B base G0 EX14_takesJ H0 [(r0, 16, 29, .int u)] t.heap) (jA base)) ([.ref r0, .ref r1] : List Value).toArray s 0 0 (jA base) := ⟨_, rfl⟩
  rw [← hQ]
  have hl := lv_entry ([.ref r0, .ref r1]) (n := 3) (Nat.le_of_ble_eq_true rfl)
  rw [lg_entry_eq]
  generalize (lg_sl ([.ref r0, .ref r1]) ++ List.replicate (3 - (lg_sl ([.ref r0, .ref r1])).length) Slot.unset).toArray = ls at hl ⊢
  have hstr_r1 := hstrF_r1.str
  have hl : lv_has ls 3 [(0, .ref r0), (1, .ref r1)] := hl
  generalize hR : (headSpec (jw yX14_takes cX14_takes 3 (some .boolean)) ({ frames := 4, cells := 0, slots := 0, locals := 141 })).room = R
  subst hH0
  have hh : jSt (dC, dI) B base G0 G0 EX14_takesJ s.heap 0 0 [(r0, 16, 29, .int pt), (r0, 16, 30, .int pe), (r0, 16, 9, .ref kp_)] [(kp_, 110, 3300, ca 1, fb)] [] s.heap [] := jSt.start hX hP0 hM0 jIs.nil
  clear hX hP0
  have hk0 : (0 : Int32).toInt = 0 := by decide
  have hk1 : (1 : Int32).toInt = 1 := by decide
  have hly_16_9 := htw (u_lay RX14 TX14 9) (jWc_wsX140 _ (u_in_lay (by decide)))
  have hly_16_29 := htw (u_lay RX14 TX14 29) (jWc_wsX140 _ (u_in_lay (by decide)))
  have hly_16_30 := htw (u_lay RX14 TX14 30) (jWc_wsX140 _ (u_in_lay (by decide)))
  have hlk_273 := (htw (.fieldLink RX14 273 "ProofServerModel" "at" "I") (jWr_50 _ (List.mem_of_getElem? (i := 5) rfl)))
  have hlk_276 := (htw (.fieldLink RX14 276 "ProofServerModel" "end" "I") (jWr_50 _ (List.mem_of_getElem? (i := 6) rfl)))
  have hlk_20 := (htw (.fieldLink RX14 20 "ProofServerModel" "kept" "[I") (jWr_10 _ (List.mem_of_getElem? (i := 21) rfl)))
  refine lv_iconst (v := 0) hx hb dX14_takes_0 (by decide) ?_
  refine lv_istore_n (lv' := [(2, .int 0), (0, .ref r0), (1, .ref r1)]) hx hb dX14_takes_1 rfl hl (by decide) rfl (fun ls hl => ?_)
  have L2 : ∀ (N : Nat) (v2_1 : Int32) (H_1 : Heap) (locs_1 : List Loc), jSt (dC, dI) B base G0 G0 EX14_takesJ s.heap 0 0 [(r0, 16, 29, .int pt), (r0, 16, 30, .int pe), (r0, 16, 9, .ref kp_)] [(kp_, 110, 3300, ca 1, fb)] [] H_1 locs_1 → (0 ≤ v2_1.toInt ∧ v2_1.toInt ≤ n1 ∧ pt.toInt + v2_1.toInt ≤ pe.toInt ∧ jjWf (jB8 fb) pe.toInt f1 pt.toInt (n1 - (v2_1.toInt).toNat) (v2_1.toInt).toNat = jjW (jB8 fb) pe.toInt f1 n1 pt.toInt) → (n1 - v2_1.toInt : Int) < N → ∀ ls : Array Slot, lv_has ls 3 [(0, .ref r0), (1, .ref r1), (2, .int v2_1)] → W p l e R s m ([.ref r0, .ref r1] : List Value).toArray below meth c H_1 locs_1 0 0 Q (F0 m 2 ls []) := by
    intro N
    induction N with
    | zero => intro v2_1 H_1 locs_1 hh_1  hi_1 hm; exact absurd hm (by omega)
    | succ N L2 =>
      intro v2_1 H_1 locs_1 hh_1  hi_1 hm_1 ls hl
      obtain ⟨hi_1_0, hi_1_1, hi_1_2, hi_1_3⟩ := hi_1
      refine lv_iload_n hx hb dX14_takes_2 rfl (lv_at hl 2 rfl) ?_
      refine lv_aload_n hx hb dX14_takes_3 rfl (lv_at hl 1 rfl) ?_
      refine vp_callSi (W.runV (As := []) (rest := [.int v2_1]) ⟨hx, hb, hml, hown, hts⟩ (wJ0_length_8abf5 l dC dI ca base H_1 r1 n1) (cwV 0 hts (jgV (jWr_49 _ (List.mem_of_getElem? (i := 1) rfl)) (jWr_5 _ (List.mem_of_getElem? (i := 13) rfl)) (jWr_5 _ (List.mem_of_getElem? (i := 14) rfl)) (jWr_5 _ (List.mem_of_getElem? (i := 15) rfl)) (jWr_5 _ (List.mem_of_getElem? (i := 16) rfl))) rfl rfl rfl (by decide +kernel) ⟨by rw [← hR]; exact Nat.le_of_ble_eq_true rfl, by rw [← hR]; exact Nat.le_of_ble_eq_true rfl⟩) ⟨fun a U g mk q => by obtain ⟨q0, q1, q2, qK, q9⟩ := q; exact ⟨q0, q1, (q2.moved (Vm.Alike.refl U.vm)), jG.calling g mk a qK, q9⟩, jStr_recv hstr_r1 hh_1.1, fun U hU hW => ⟨rfl, hU, (hstr_r1.moved hW.alike).kept hh_1.1.2.1, hG.step hW hU hh_1.1, by omega⟩⟩ rfl rfl hl.1 rfl (lv_room (Nat.le_of_ble_eq_true rfl)) dX14_takes_4 ⟨Nat.zero_le _, Nat.zero_le _⟩) (fun r_2 hr_2 => ?_)
      refine lv_icmp_ge (tgt := 50) hx hb dX14_takes_7 (by decide) (fun c_3 => ?_) (fun c_3 => ?_)
      · skip
        have c_3' : v2_1.toInt ≥ r_2.toInt := jb_ge (rfl) (rfl) c_3
        refine lv_aload_n hx hb dX14_takes_50 rfl (lv_at hl 0 rfl) ?_
        refine lv_dup hx hb dX14_takes_51 rfl ?_
        refine j7_read hx hb hown hK (C := RX14) (T := TX14) (N := 74) rfl hly_16_29 hlk_273 (hh_1.at 0 rfl) dX14_takes_52 ?_
        refine lv_aload_n hx hb dX14_takes_55 rfl (lv_at hl 1 rfl) ?_
        refine vp_callSi (W.runV (As := []) (rest := [.int pt, .ref r0]) ⟨hx, hb, hml, hown, hts⟩ (wJ0_length_8abf5 l dC dI ca base H_1 r1 n1) (cwV 0 hts (jgV (jWr_49 _ (List.mem_of_getElem? (i := 1) rfl)) (jWr_5 _ (List.mem_of_getElem? (i := 13) rfl)) (jWr_5 _ (List.mem_of_getElem? (i := 14) rfl)) (jWr_5 _ (List.mem_of_getElem? (i := 15) rfl)) (jWr_5 _ (List.mem_of_getElem? (i := 16) rfl))) rfl rfl rfl (by decide +kernel) ⟨by rw [← hR]; exact Nat.le_of_ble_eq_true rfl, by rw [← hR]; exact Nat.le_of_ble_eq_true rfl⟩) ⟨fun a U g mk q => by obtain ⟨q0, q1, q2, qK, q9⟩ := q; exact ⟨q0, q1, (q2.moved (Vm.Alike.refl U.vm)), jG.calling g mk a qK, q9⟩, jStr_recv hstr_r1 hh_1.1, fun U hU hW => ⟨rfl, hU, (hstr_r1.moved hW.alike).kept hh_1.1.2.1, hG.step hW hU hh_1.1, by omega⟩⟩ rfl rfl hl.1 rfl (lv_room (Nat.le_of_ble_eq_true rfl)) dX14_takes_56 ⟨Nat.zero_le _, Nat.zero_le _⟩) (fun r_4 hr_4 => ?_)
        refine lv_iadd hx hb dX14_takes_59 ?_
        refine lv_topi (fun z_5 ez_5 => ?_)
        have hz_5 : z_5.toInt = pt.toInt + r_4.toInt := by rw [ez_5]; exact jb_iadd2 (rfl) (rfl) (by omega)
        refine j7_put hx hb hown hK hh_1 hB hAp hB16 (C := RX14) (T := TX14) (N := 74) rfl (by decide) hg_r0 (i := 29) (by decide) hly_16_29 rfl hlk_273 rfl (ty := .int) (v := .int z_5) (by decide +kernel) rfl rfl (⟨_, rfl, by omega, by omega⟩) rfl (L1 := [(r0, 16, 30, .int pe), (r0, 16, 9, .ref kp_)]) [1, 2] rfl rfl rfl dX14_takes_60 (fun H_6 locs_6 hh_6 => ?_)
        clear hh_1
        refine lv_iconst (v := 1) hx hb dX14_takes_63 (by decide) ?_
        rw [hQ]
        exact W.zret (v := 1) hx hb hr (jb_nz (Or.inr rfl)) (fun t ht hW => ⟨⟨1, z_5, rfl, ⟨(Or.inr rfl), by (try dsimp only); refine ⟨?_, by omega⟩; have h9 := hi_1_3; rw [show n1 - v2_1.toInt.toNat = 0 by omega] at h9; exact hk1.trans h9⟩, hh_6.rt (M1 := [(r0, 16, 29, .int z_5)]) [0] rfl ht⟩, by rw [ht]; try exact hh_6.1.1, fun q h9 hq => by rw [ht]; try exact hh_6.1.2.1 q h9 hq⟩) hh_6.1.2.2 dX14_takes_64
      · skip
        have c_3' : v2_1.toInt < r_2.toInt := jb_ge_n (rfl) (rfl) c_3
        refine lv_aload_n hx hb dX14_takes_10 rfl (lv_at hl 0 rfl) ?_
        refine j7_read hx hb hown hK (C := RX14) (T := TX14) (N := 74) rfl hly_16_29 hlk_273 (hh_1.at 0 rfl) dX14_takes_11 ?_
        refine lv_iload_n hx hb dX14_takes_14 rfl (lv_at hl 2 rfl) ?_
        refine lv_iadd hx hb dX14_takes_15 ?_
        refine lv_topi (fun z_7 ez_7 => ?_)
        have hz_7 : z_7.toInt = pt.toInt + v2_1.toInt := by rw [ez_7]; exact jb_iadd2 (rfl) (rfl) (by omega)
        refine lv_aload_n hx hb dX14_takes_16 rfl (lv_at hl 0 rfl) ?_
        refine j7_read hx hb hown hK (C := RX14) (T := TX14) (N := 74) rfl hly_16_30 hlk_276 (hh_1.at 1 rfl) dX14_takes_17 ?_
        refine lv_icmp_ge (tgt := 42) hx hb dX14_takes_20 (by decide) (fun c_8 => ?_) (fun c_8 => ?_)
        · skip
          have c_8' : z_7.toInt ≥ pe.toInt := jb_ge (rfl) (rfl) c_8
          refine lv_iconst (v := 0) hx hb dX14_takes_42 (by decide) ?_
          rw [hQ]
          exact W.zret (v := 0) hx hb hr (jb_nz (Or.inl rfl)) (fun t ht hW => ⟨⟨0, pt, rfl, ⟨(Or.inl rfl), by (try dsimp only); refine ⟨?_, by omega⟩; exact hk0.trans ((jjWf_n (Or.inl (by omega)) (by omega)).symm.trans hi_1_3)⟩, hh_1.rt (M1 := [(r0, 16, 29, .int pt)]) [0] rfl ht⟩, by rw [ht]; try exact hh_1.1.1, fun q h9 hq => by rw [ht]; try exact hh_1.1.2.1 q h9 hq⟩) hh_1.1.2.2 dX14_takes_43
        · skip
          have c_8' : z_7.toInt < pe.toInt := jb_ge_n (rfl) (rfl) c_8
          refine lv_aload_n hx hb dX14_takes_23 rfl (lv_at hl 0 rfl) ?_
          refine j7_read hx hb hown hK (C := RX14) (T := TX14) (N := 74) rfl hly_16_9 hlk_20 (hh_1.at 2 rfl) dX14_takes_24 ?_
          refine lv_aload_n hx hb dX14_takes_27 rfl (lv_at hl 0 rfl) ?_
          refine j7_read hx hb hown hK (C := RX14) (T := TX14) (N := 74) rfl hly_16_29 hlk_273 (hh_1.at 0 rfl) dX14_takes_28 ?_
          refine lv_iload_n hx hb dX14_takes_31 rfl (lv_at hl 2 rfl) ?_
          refine lv_iadd hx hb dX14_takes_32 ?_
          refine lv_topi (fun z_9 ez_9 => ?_)
          have hz_9 : z_9.toInt = pt.toInt + v2_1.toInt := by rw [ez_9]; exact jb_iadd2 (rfl) (rfl) (by omega)
          refine j7_ialdM hx hb hK hh_1 hB110 1 rfl (by decide) hg_kp_ (x := z_9.toInt) (rfl) (by omega) (j := 0) rfl dX14_takes_33 (fun z_10 ez_10 (hz_10 : 0 ≤ z_10.toInt ∧ z_10.toInt ≤ 255) => ?_)
          have hqz_10 : z_10.toInt = jSo fb ((pt.toInt + v2_1.toInt)) := by unfold jSo; rw [ez_10, show z_9.toInt = (pt.toInt + v2_1.toInt) by omega]
          refine lv_aload_n hx hb dX14_takes_34 rfl (lv_at hl 1 rfl) ?_
          refine lv_iload_n hx hb dX14_takes_35 rfl (lv_at hl 2 rfl) ?_
          refine vp_callSi (W.runV (As := [.int v2_1]) (rest := [.int z_10]) ⟨hx, hb, hml, hown, hts⟩ (eJ0_charAt_5068e l dC dI ca base H_1 r1 n1 f1 v2_1) (cwV 1 hts (jgV (jWr_49 _ (List.mem_of_getElem? (i := 13) rfl)) (jWr_6 _ (List.mem_of_getElem? (i := 1) rfl)) (jWr_6 _ (List.mem_of_getElem? (i := 2) rfl)) (jWr_5 _ (List.mem_of_getElem? (i := 15) rfl)) (jWr_6 _ (List.mem_of_getElem? (i := 3) rfl))) rfl rfl rfl (by decide +kernel) ⟨by rw [← hR]; exact Nat.le_of_ble_eq_true rfl, by rw [← hR]; exact Nat.le_of_ble_eq_true rfl⟩) ⟨fun a U g mk q => by obtain ⟨q0, q1, q2, qK, q9⟩ := q; exact ⟨q0, q1, (q2.moved (Vm.Alike.refl U.vm)), jG.calling g mk a qK, q9⟩, jStr_recv hstr_r1 hh_1.1, fun U hU hW => ⟨rfl, hU, (hstrF_r1.moved hW.alike).kept hh_1.1.2.1, hG.step hW hU hh_1.1, ⟨by omega, by omega, by omega⟩⟩⟩ rfl rfl hl.1 rfl (lv_room (Nat.le_of_ble_eq_true rfl)) dX14_takes_36 ⟨Nat.zero_le _, Nat.zero_le _⟩) (fun r_11 hr_11 => ?_)
          refine lv_icmp_eq (tgt := 44) hx hb dX14_takes_39 (by decide) (fun c_12 => ?_) (fun c_12 => ?_)
          · skip
            have c_12' : z_10.toInt = r_11.toInt := jb_eq (rfl) (rfl) c_12
            obtain ⟨z_13, ez_13⟩ : ∃ y : Int32, y = v2_1 + 1 := ⟨_, rfl⟩
            refine lv_iinc (v := z_13) (lv' := [(2, .int z_13), (0, .ref r0), (1, .ref r1)]) hx hb dX14_takes_44 hl (k := 2) rfl (by rw [ez_13]; rfl) (by decide) rfl (fun ls hl => ?_)
            have hz_13 : z_13.toInt = v2_1.toInt + 1 := by rw [ez_13]; exact jb_iadd2 (rfl) (by decide) (by omega)
            refine lv_goto (tgt := 2) hx hb dX14_takes_47 (by decide) ?_
            exact L2 z_13 _ _ hh_1 (by refine ⟨by omega, by omega, by omega, ?_⟩; rw [show (z_13).toInt.toNat = v2_1.toInt.toNat + 1 by omega, show n1 - (v2_1.toInt.toNat + 1) = n1 - v2_1.toInt.toNat - 1 by omega]; exact (jjWf_y (by omega) (by rw [show pt.toInt + ((v2_1.toInt.toNat : Nat) : Int) = pt.toInt + v2_1.toInt by omega]; unfold jB8; have h8 := hqz_10; have h7 := congrArg Int32.toInt hr_11; have h6 := hp7 v2_1.toInt.toNat (by omega); omega) (by omega)).trans hi_1_3) (by omega) _ (lv_sub hl [1, 2, 0] rfl)
          · skip
            have c_12' : z_10.toInt ≠ r_11.toInt := jb_eq_n (rfl) (rfl) c_12
            refine lv_iconst (v := 0) hx hb dX14_takes_42 (by decide) ?_
            rw [hQ]
            exact W.zret (v := 0) hx hb hr (jb_nz (Or.inl rfl)) (fun t ht hW => ⟨⟨0, pt, rfl, ⟨(Or.inl rfl), by (try dsimp only); refine ⟨?_, by omega⟩; exact hk0.trans ((jjWf_n (Or.inr (fun h4 => by have h3 := h4; have h8 := hqz_10; have h7 := congrArg Int32.toInt hr_11; have h6 := hp7 v2_1.toInt.toNat (by omega); rw [show pt.toInt + ((v2_1.toInt.toNat : Nat) : Int) = pt.toInt + v2_1.toInt by omega] at h3; unfold jB8 at h3; omega)) (by omega)).symm.trans hi_1_3)⟩, hh_1.rt (M1 := [(r0, 16, 29, .int pt)]) [0] rfl ht⟩, by rw [ht]; try exact hh_1.1.1, fun q h9 hq => by rw [ht]; try exact hh_1.1.2.1 q h9 hq⟩) hh_1.1.2.2 dX14_takes_43
  exact L2 (n1 - (0 : Int32).toInt : Int).toNat.succ 0 _ _ hh (by refine ⟨by omega, by omega, by omega, ?_⟩; rw [hk0]; rfl) (by omega) _ (lv_sub hl [1, 2, 0] rfl)
set_option maxHeartbeats 4000000 in
set_option maxRecDepth 20000 in
theorem uX14_digitsJ (l : Launch) (dC : Nat → ClassId) (dI : Nat → Nat → Nat) (ca : Nat → ClassId) (base : Nat) (B : jF) (hB : jBok B) (hAp : jAp (dC, dI)) (hB16 : ∀ n G a H, B 16 n G a H ↔ jOb (dC, dI) 16 74 (F16 n G) a H) (hB110 : ∀ n G a H, B 110 n G a H ↔ jAr (dC, dI) (ca 1) (fun j z => 0 ≤ z.toInt ∧ z.toInt ≤ 255) n a H) (G0 : jT) (H0 : Heap) (r0 : Nat) (pt : Int32) (pe : Int32) (kp_ : Nat) (pb : Int32) (fb : Nat → Int32) : Met l yX14_digits (jw yX14_digits cX14_digits 1 none) ({ frames := 2, cells := 0, slots := 0, locals := 42 }) (va_Pc [.ref r0] (fun U => U.heap = H0 ∧ jX B base G0 [] H0 ∧ jG dC dI ca base U ∧ G0 r0 = some (16, 0) ∧ G0 kp_ = some (110, 3300) ∧ jP (dC, dI) G0 H0 [(r0, 16, 29, .int pt), (r0, 16, 30, .int pe), (r0, 16, 9, .ref kp_), (r0, 16, 31, .int pb)] ∧ jMc (dC, dI) G0 H0 [(kp_, 110, 3300, ca 1, fb)] ∧ 0 ≤ pt.toInt ∧ pt.toInt ≤ 90000 ∧ 0 ≤ pe.toInt ∧ pe.toInt ≤ 3000 ∧ pt.toInt ≤ pe.toInt ∧ 0 ≤ pb.toInt ∧ pb.toInt ≤ 1)) (va_Qv (S := Int32 × Int32) (fun u => u.1.toInt = jjDg (jB8 fb) pe.toInt pt.toInt ∧ pt.toInt ≤ u.1.toInt ∧ u.1.toInt ≤ pe.toInt ∧ ((u.1.toInt = pt.toInt ∧ u.2.toInt = 1) ∨ (pt.toInt + 1 ≤ u.1.toInt ∧ u.2.toInt = pb.toInt))) (fun u t => jRt (dC, dI) B base G0 EX14_digitsJ H0 [(r0, 16, 29, .int u.1), (r0, 16, 31, .int u.2)] t.heap) (jA base)) 0 0 (jA base) := by
  refine Met.ofW (cc := cX14_digits) (maxL := 1) (ret := none) (by decide) rfl ?_
  intro p e s m args below meth c s₁ Bd hml hv
  obtain ⟨rfl, hH0, hX, hG, hg_r0, hg_kp_, hP0, hM0, hp0, hp1, hp2, hp3, hp4, hp5, hp6⟩ := hv
  have hK := hG.1
  have hx := Bd.exec
  have hb := Bd.bytes
  have hr := Bd.returns
  have hts := atoms_spec (ws := (jw yX14_digits cX14_digits 1 none)) Bd.pre
  have htw : ∀ w ∈ jWl, w.before _ s = true := fun w h => hts w (List.mem_cons_of_mem _ h)
  have hown : s.vm.findClass RX14 = some m.cls := findClass_of_methodNamed Bd.named
  have hlocks := Bd.notSynchronized
  obtain ⟨Q, hQ⟩ : ∃ Q, Q = MQ below (va_Qv (S := Int32 × Int32) (fun u => u.1.toInt = jjDg (jB8 fb) pe.toInt pt.toInt ∧ pt.toInt ≤ u.1.toInt ∧ u.1.toInt ≤ pe.toInt ∧ ((u.1.toInt = pt.toInt ∧ u.2.toInt = 1) ∨ (pt.toInt + 1 ≤ u.1.toInt ∧ u.2.toInt = pb.toInt))) (fun u t => jRt (dC, dI) B base G0 EX14_digitsJ H0 [(r0, 16, 29, .int u.1), (r0, 16, 31, .int u.2)] t.heap) (jA base)) ([.ref r0] : List Value).toArray s 0 0 (jA base) := ⟨_, rfl⟩
  rw [← hQ]
  have hl := lv_entry ([.ref r0]) (n := 1) (Nat.le_of_ble_eq_true rfl)
  rw [lg_entry_eq]
  generalize (lg_sl ([.ref r0]) ++ List.replicate (1 - (lg_sl ([.ref r0])).length) Slot.unset).toArray = ls at hl ⊢
  have hl : lv_has ls 1 [(0, .ref r0)] := hl
  generalize hR : (headSpec (jw yX14_digits cX14_digits 1 none) ({ frames := 2, cells := 0, slots := 0, locals := 42 })).room = R
  subst hH0
  have hh : jSt (dC, dI) B base G0 G0 EX14_digitsJ s.heap 0 0 [(r0, 16, 29, .int pt), (r0, 16, 30, .int pe), (r0, 16, 9, .ref kp_), (r0, 16, 31, .int pb)] [(kp_, 110, 3300, ca 1, fb)] [] s.heap [] := jSt.start hX hP0 hM0 jIs.nil
  clear hX hP0
  have hk0 : (0 : Int32).toInt = 0 := by decide
  have hk1 : (1 : Int32).toInt = 1 := by decide
  have hly_16_29 := htw (u_lay RX14 TX14 29) (jWc_wsX140 _ (u_in_lay (by decide)))
  have hly_16_31 := htw (u_lay RX14 TX14 31) (jWc_wsX140 _ (u_in_lay (by decide)))
  have hlk_288 := (htw (.fieldLink RX14 288 "ProofServerModel" "bad" "Z") (jWr_50 _ (List.mem_of_getElem? (i := 9) rfl)))
  have hlk_273 := (htw (.fieldLink RX14 273 "ProofServerModel" "at" "I") (jWr_50 _ (List.mem_of_getElem? (i := 5) rfl)))
  refine lv_aload_n hx hb dX14_digits_0 rfl (lv_at hl 0 rfl) ?_
  refine va_calli (A0 := jA base) (H0 := s.heap) (va_runV (As := []) (rest := []) ⟨hx, hb, hml, hown, hts⟩ (uX14_hereJ l dC dI ca base B hB hAp hB16 hB110 G0 s.heap r0 pt pe kp_ fb) (cwV 0 hts (jgV (jWr_50 _ (List.mem_of_getElem? (i := 20) rfl)) (jWr_50 _ (List.mem_of_getElem? (i := 21) rfl)) (jWr_50 _ (List.mem_of_getElem? (i := 22) rfl)) (jWr_1 _ (List.mem_of_getElem? (i := 5) rfl)) (jWr_50 _ (List.mem_of_getElem? (i := 23) rfl))) rfl rfl rfl (by decide +kernel) ⟨by rw [← hR]; exact Nat.le_of_ble_eq_true rfl, by rw [← hR]; exact Nat.le_of_ble_eq_true rfl⟩) ⟨fun a U g mk q => by obtain ⟨q0, q1, q2, qK, q10, q11, q12, q13, q14⟩ := q; exact ⟨q0, q1, q2, jG.calling g mk a qK, q10, q11, q12, q13, q14⟩, hh.recv (C := RX14) (T := TX14) (N := 74) hB16 rfl (by decide) hg_r0 hK, fun U hU hW => ⟨rfl, hU, hh.2.1, hG.step hW hU hh.1, hg_r0, hg_kp_, (hh.2.2.1.sub (L1 := [(r0, 16, 29, .int pt), (r0, 16, 30, .int pe), (r0, 16, 9, .ref kp_)]) [0, 1, 2] rfl), (hh.2.2.2.2.2.2.2.1.sub (L1 := [(kp_, 110, 3300, ca 1, fb)]) [0] rfl), by first | omega | (refine ⟨?_, ?_, ?_, ?_⟩ <;> (first | omega | rfl | assumption | decide | exact Or.inl rfl | exact Or.inr rfl | (simp only; omega)))⟩⟩ rfl rfl hl.1 rfl (lv_room (Nat.le_of_ble_eq_true rfl)) dX14_digits_1 ⟨Nat.zero_le _, Nat.zero_le _⟩) hh.1 (fun q _ h => h) (fun q h => h) (fun r_2 u_1 t_1 H_1 locs_1 ht_1 hvm_1 hr_2 hb_1 hz_1 hk_1 hS_1 => ?_)
  rw [ht_1] at hb_1
  obtain ⟨hb_11, hb_12, hb_13, hb_14, hb_15⟩ := hb_1
  have hh_1 : jSt (dC, dI) B base G0 G0 EX14_digitsJ s.heap 0 0 [(r0, 16, 29, .int pt), (r0, 16, 30, .int pe), (r0, 16, 9, .ref kp_), (r0, 16, 31, .int pb)] [(kp_, 110, 3300, ca 1, fb)] [] H_1 locs_1 := ((hh.call hb_11 hb_12 hb_13 hb_14 hS_1 rfl (L1 := [(r0, 16, 29, .int pt), (r0, 16, 30, .int pe), (r0, 16, 9, .ref kp_), (r0, 16, 31, .int pb)]) [0, 1, 2, 3] rfl rfl (M1 := [(kp_, 110, 3300, ca 1, fb)]) [0] rfl rfl (I1 := []) [] rfl rfl).more hb_15)
  clear hh ht_1 hvm_1 hz_1 hk_1 hS_1 hb_11 hb_12 hb_13 hb_14 hb_15
  obtain ⟨hr_2_0, hr_2_1, hr_2_2⟩ := hr_2
  refine va_calli (A0 := jA base) (H0 := s.heap) (va_runS (As := [.int r_2]) (rest := []) ⟨hx, hb, hml, hown, hts⟩ (uX14_isDigitJ l dC dI ca base B hB hAp G0 H_1 r_2) (va_cwS 1 hts (jgS (jWr_49 _ (List.mem_of_getElem? (i := 18) rfl)) (jWr_49 _ (List.mem_of_getElem? (i := 19) rfl)) (jWr_1 _ (List.mem_of_getElem? (i := 5) rfl)) (jWr_49 _ (List.mem_of_getElem? (i := 20) rfl))) rfl rfl rfl (by decide +kernel) ⟨by rw [← hR]; exact Nat.le_of_ble_eq_true rfl, by rw [← hR]; exact Nat.le_of_ble_eq_true rfl⟩) ⟨fun a U g mk q => by obtain ⟨q0, q1, q2, qK, q10, q11⟩ := q; exact ⟨q0, q1, q2, jG.calling g mk a qK, q10, q11⟩, fun U hU hW => ⟨rfl, hU, hh_1.2.1, hG.step hW hU hh_1.1, jP.nil, trivial⟩⟩ rfl rfl hl.1 rfl (lv_room (Nat.le_of_ble_eq_true rfl)) dX14_digits_4 ⟨Nat.zero_le _, Nat.zero_le _⟩) hh_1.1 (fun q _ h => h) (fun q h => h) (fun r_4 u_3 t_3 H_3 locs_3 ht_3 hvm_3 hr_4 hb_3 hz_3 hk_3 hS_3 => ?_)
  rw [ht_3] at hb_3
  obtain ⟨hb_31, hb_32, hb_33, hb_34, hb_35⟩ := hb_3
  have hh_3 : jSt (dC, dI) B base G0 G0 EX14_digitsJ s.heap 0 0 [(r0, 16, 29, .int pt), (r0, 16, 30, .int pe), (r0, 16, 9, .ref kp_), (r0, 16, 31, .int pb)] [(kp_, 110, 3300, ca 1, fb)] [] H_3 locs_3 := ((hh_1.call hb_31 hb_32 hb_33 hb_34 hS_3 rfl (L1 := [(r0, 16, 29, .int pt), (r0, 16, 30, .int pe), (r0, 16, 9, .ref kp_), (r0, 16, 31, .int pb)]) [0, 1, 2, 3] rfl rfl (M1 := [(kp_, 110, 3300, ca 1, fb)]) [0] rfl rfl (I1 := []) [] rfl rfl).more hb_35)
  clear hh_1 ht_3 hvm_3 hz_3 hk_3 hS_3 hb_31 hb_32 hb_33 hb_34 hb_35
  obtain ⟨hr_4b, hr_4p⟩ := hr_4
  have hr_4' := jb_01 hr_4b
  refine lv_if_ne (tgt := 15) hx hb dX14_digits_7 (by decide) (fun c_5 => ?_) (fun c_5 => ?_)
  · skip
    have c_5' : r_4.toInt ≠ 0 := jb_ne (rfl) ((by decide)) c_5
    first | (have hr_4pq := hr_4p.resolve_left (by omega); clear hr_4p) | (have hr_4pq := hr_4p.resolve_right (by omega); clear hr_4p) | try clear hr_4p
    have L15 : ∀ (N : Nat) (wt_6 : Int32) (kf : Nat) (H_6 : Heap) (locs_6 : List Loc), jSt (dC, dI) B base G0 G0 EX14_digitsJ s.heap 0 0 [(r0, 16, 29, .int wt_6), (r0, 16, 30, .int pe), (r0, 16, 9, .ref kp_), (r0, 16, 31, .int pb)] [(kp_, 110, 3300, ca 1, fb)] [] H_6 locs_6 → (pt.toInt ≤ wt_6.toInt ∧ wt_6.toInt ≤ pe.toInt ∧ pe.toInt - wt_6.toInt ≤ kf ∧ jjD (jB8 fb) pe.toInt kf wt_6.toInt = jjDg (jB8 fb) pe.toInt pt.toInt) → (((pe.toInt - wt_6.toInt).toNat : Int) : Int) < N → ∀ ls : Array Slot, lv_has ls 1 [(0, .ref r0)] → W p l e R s m ([.ref r0] : List Value).toArray below meth c H_6 locs_6 0 0 Q (F0 m 15 ls []) := by
      intro N
      induction N with
      | zero => intro wt_6 kf H_6 locs_6 hh_6  hi_6 hm; exact absurd hm (by omega)
      | succ N L15 =>
        intro wt_6 kf H_6 locs_6 hh_6  hi_6 hm_6 ls hl
        obtain ⟨hi_6_0, hi_6_1, hi_6_2, hi_6_3⟩ := hi_6
        have hd1 := jjDg.pos hr_2_0 (by omega) (by omega)
        refine lv_aload_n hx hb dX14_digits_15 rfl (lv_at hl 0 rfl) ?_
        refine va_calli (A0 := jA base) (H0 := s.heap) (va_runV (As := []) (rest := []) ⟨hx, hb, hml, hown, hts⟩ (uX14_hereJ l dC dI ca base B hB hAp hB16 hB110 G0 H_6 r0 wt_6 pe kp_ fb) (cwV 0 hts (jgV (jWr_50 _ (List.mem_of_getElem? (i := 20) rfl)) (jWr_50 _ (List.mem_of_getElem? (i := 21) rfl)) (jWr_50 _ (List.mem_of_getElem? (i := 22) rfl)) (jWr_1 _ (List.mem_of_getElem? (i := 5) rfl)) (jWr_50 _ (List.mem_of_getElem? (i := 23) rfl))) rfl rfl rfl (by decide +kernel) ⟨by rw [← hR]; exact Nat.le_of_ble_eq_true rfl, by rw [← hR]; exact Nat.le_of_ble_eq_true rfl⟩) ⟨fun a U g mk q => by obtain ⟨q0, q1, q2, qK, q10, q11, q12, q13, q14⟩ := q; exact ⟨q0, q1, q2, jG.calling g mk a qK, q10, q11, q12, q13, q14⟩, hh_6.recv (C := RX14) (T := TX14) (N := 74) hB16 rfl (by decide) hg_r0 hK, fun U hU hW => ⟨rfl, hU, hh_6.2.1, hG.step hW hU hh_6.1, hg_r0, hg_kp_, (hh_6.2.2.1.sub (L1 := [(r0, 16, 29, .int wt_6), (r0, 16, 30, .int pe), (r0, 16, 9, .ref kp_)]) [0, 1, 2] rfl), (hh_6.2.2.2.2.2.2.2.1.sub (L1 := [(kp_, 110, 3300, ca 1, fb)]) [0] rfl), by first | omega | (refine ⟨?_, ?_, ?_, ?_⟩ <;> (first | omega | rfl | assumption | decide | exact Or.inl rfl | exact Or.inr rfl | (simp only; omega)))⟩⟩ rfl rfl hl.1 rfl (lv_room (Nat.le_of_ble_eq_true rfl)) dX14_digits_16 ⟨Nat.zero_le _, Nat.zero_le _⟩) hh_6.1 (fun q _ h => h) (fun q h => h) (fun r_8 u_7 t_7 H_7 locs_7 ht_7 hvm_7 hr_8 hb_7 hz_7 hk_7 hS_7 => ?_)
        rw [ht_7] at hb_7
        obtain ⟨hb_71, hb_72, hb_73, hb_74, hb_75⟩ := hb_7
        have hh_7 : jSt (dC, dI) B base G0 G0 EX14_digitsJ s.heap 0 0 [(r0, 16, 29, .int wt_6), (r0, 16, 30, .int pe), (r0, 16, 9, .ref kp_), (r0, 16, 31, .int pb)] [(kp_, 110, 3300, ca 1, fb)] [] H_7 locs_7 := ((hh_6.call hb_71 hb_72 hb_73 hb_74 hS_7 rfl (L1 := [(r0, 16, 29, .int wt_6), (r0, 16, 30, .int pe), (r0, 16, 9, .ref kp_), (r0, 16, 31, .int pb)]) [0, 1, 2, 3] rfl rfl (M1 := [(kp_, 110, 3300, ca 1, fb)]) [0] rfl rfl (I1 := []) [] rfl rfl).more hb_75)
        clear hh_6 ht_7 hvm_7 hz_7 hk_7 hS_7 hb_71 hb_72 hb_73 hb_74 hb_75
        obtain ⟨hr_8_0, hr_8_1, hr_8_2⟩ := hr_8
        refine va_calli (A0 := jA base) (H0 := s.heap) (va_runS (As := [.int r_8]) (rest := []) ⟨hx, hb, hml, hown, hts⟩ (uX14_isDigitJ l dC dI ca base B hB hAp G0 H_7 r_8) (va_cwS 1 hts (jgS (jWr_49 _ (List.mem_of_getElem? (i := 18) rfl)) (jWr_49 _ (List.mem_of_getElem? (i := 19) rfl)) (jWr_1 _ (List.mem_of_getElem? (i := 5) rfl)) (jWr_49 _ (List.mem_of_getElem? (i := 20) rfl))) rfl rfl rfl (by decide +kernel) ⟨by rw [← hR]; exact Nat.le_of_ble_eq_true rfl, by rw [← hR]; exact Nat.le_of_ble_eq_true rfl⟩) ⟨fun a U g mk q => by obtain ⟨q0, q1, q2, qK, q10, q11⟩ := q; exact ⟨q0, q1, q2, jG.calling g mk a qK, q10, q11⟩, fun U hU hW => ⟨rfl, hU, hh_7.2.1, hG.step hW hU hh_7.1, jP.nil, trivial⟩⟩ rfl rfl hl.1 rfl (lv_room (Nat.le_of_ble_eq_true rfl)) dX14_digits_19 ⟨Nat.zero_le _, Nat.zero_le _⟩) hh_7.1 (fun q _ h => h) (fun q h => h) (fun r_10 u_9 t_9 H_9 locs_9 ht_9 hvm_9 hr_10 hb_9 hz_9 hk_9 hS_9 => ?_)
        rw [ht_9] at hb_9
        obtain ⟨hb_91, hb_92, hb_93, hb_94, hb_95⟩ := hb_9
        have hh_9 : jSt (dC, dI) B base G0 G0 EX14_digitsJ s.heap 0 0 [(r0, 16, 29, .int wt_6), (r0, 16, 30, .int pe), (r0, 16, 9, .ref kp_), (r0, 16, 31, .int pb)] [(kp_, 110, 3300, ca 1, fb)] [] H_9 locs_9 := ((hh_7.call hb_91 hb_92 hb_93 hb_94 hS_9 rfl (L1 := [(r0, 16, 29, .int wt_6), (r0, 16, 30, .int pe), (r0, 16, 9, .ref kp_), (r0, 16, 31, .int pb)]) [0, 1, 2, 3] rfl rfl (M1 := [(kp_, 110, 3300, ca 1, fb)]) [0] rfl rfl (I1 := []) [] rfl rfl).more hb_95)
        clear hh_7 ht_9 hvm_9 hz_9 hk_9 hS_9 hb_91 hb_92 hb_93 hb_94 hb_95
        obtain ⟨hr_10b, hr_10p⟩ := hr_10
        have hr_10' := jb_01 hr_10b
        refine lv_if_eq (tgt := 38) hx hb dX14_digits_22 (by decide) (fun c_11 => ?_) (fun c_11 => ?_)
        · skip
          have c_11' : r_10.toInt = 0 := jb_eq (rfl) ((by decide)) c_11
          first | (have hr_10pq := hr_10p.resolve_left (by omega); clear hr_10p) | (have hr_10pq := hr_10p.resolve_right (by omega); clear hr_10p) | try clear hr_10p
          rw [hQ]
          exact W.vret hx hb hr (fun t ht hW => ⟨⟨(wt_6, pb), rfl, by (try dsimp only); have h8 := (jjDg.none (b := jB8 fb) (e := pe.toInt) hr_8_0 (by omega)); have h9 : wt_6.toInt = jjDg (jB8 fb) pe.toInt pt.toInt := (by rw [← hi_6_3]; exact (jjD_k hr_8_0 (by omega)).symm); exact ⟨h9, by omega, by omega, by omega⟩, hh_9.rt (M1 := [(r0, 16, 29, .int wt_6), (r0, 16, 31, .int pb)]) [0, 3] rfl ht⟩, by rw [ht]; try exact hh_9.1.1, fun q h9 hq => by rw [ht]; try exact hh_9.1.2.1 q h9 hq⟩) hh_9.1.2.2 dX14_digits_38
        · skip
          have c_11' : r_10.toInt ≠ 0 := jb_eq_n (rfl) ((by decide)) c_11
          first | (have hr_10pq := hr_10p.resolve_left (by omega); clear hr_10p) | (have hr_10pq := hr_10p.resolve_right (by omega); clear hr_10p) | try clear hr_10p
          have hlt9 := jjK.lt hr_8_0 (by omega)
          refine lv_aload_n hx hb dX14_digits_25 rfl (lv_at hl 0 rfl) ?_
          refine lv_dup hx hb dX14_digits_26 rfl ?_
          refine j7_read hx hb hown hK (C := RX14) (T := TX14) (N := 74) rfl hly_16_29 hlk_273 (hh_9.at 0 rfl) dX14_digits_27 ?_
          refine lv_iconst (v := 1) hx hb dX14_digits_30 (by decide) ?_
          refine lv_iadd hx hb dX14_digits_31 ?_
          refine lv_topi (fun z_12 ez_12 => ?_)
          have hz_12 : z_12.toInt = wt_6.toInt + 1 := by rw [ez_12]; exact jb_iadd2 (rfl) ((by decide)) (by omega)
          refine j7_put hx hb hown hK hh_9 hB hAp hB16 (C := RX14) (T := TX14) (N := 74) rfl (by decide) hg_r0 (i := 29) (by decide) hly_16_29 rfl hlk_273 rfl (ty := .int) (v := .int z_12) (by decide +kernel) rfl rfl (⟨_, rfl, by omega, by omega⟩) rfl (L1 := [(r0, 16, 30, .int pe), (r0, 16, 9, .ref kp_), (r0, 16, 31, .int pb)]) [1, 2, 3] rfl rfl rfl dX14_digits_32 (fun H_13 locs_13 hh_13 => ?_)
          clear hh_9
          refine lv_goto (tgt := 15) hx hb dX14_digits_35 (by decide) ?_
          exact L15 z_12 (kf - 1) _ _ hh_13 (by have hlt := jjK.lt hr_8_0 (by omega); refine ⟨by omega, by omega, by omega, ?_⟩; exact (jjD_y (by omega) (by omega) (by omega) (by omega) (by omega)).trans hi_6_3) (by omega) _ (lv_sub hl [0] rfl)
    exact L15 (((pe.toInt - (pt : Int32).toInt).toNat : Int) : Int).toNat.succ pt ((pe.toInt - pt.toInt).toNat) _ _ hh_3 (by refine ⟨by omega, by omega, by omega, rfl⟩) (by omega) _ (lv_sub hl [0] rfl)
  · skip
    have c_5' : r_4.toInt = 0 := jb_ne_n (rfl) ((by decide)) c_5
    first | (have hr_4pq := hr_4p.resolve_left (by omega); clear hr_4p) | (have hr_4pq := hr_4p.resolve_right (by omega); clear hr_4p) | try clear hr_4p
    have hd0 := jjDg.none hr_2_0 (by omega)
    refine lv_aload_n hx hb dX14_digits_10 rfl (lv_at hl 0 rfl) ?_
    refine lv_iconst (v := 1) hx hb dX14_digits_11 (by decide) ?_
    refine j7_put hx hb hown hK hh_3 hB hAp hB16 (C := RX14) (T := TX14) (N := 74) rfl (by decide) hg_r0 (i := 31) (by decide) hly_16_31 rfl hlk_288 rfl (ty := .boolean) (v := .int 1) (by decide +kernel) (jb_nz (Or.inr rfl)) (jb_fz (Or.inr rfl)) (⟨_, rfl, (Or.inr rfl)⟩) rfl (L1 := [(r0, 16, 29, .int pt), (r0, 16, 30, .int pe), (r0, 16, 9, .ref kp_)]) [0, 1, 2] rfl rfl rfl dX14_digits_12 (fun H_14 locs_14 hh_14 => ?_)
    clear hh_3
    have L15 : ∀ (N : Nat) (wt_15 : Int32) (kf : Nat) (H_15 : Heap) (locs_15 : List Loc), jSt (dC, dI) B base G0 G0 EX14_digitsJ s.heap 0 0 [(r0, 16, 29, .int wt_15), (r0, 16, 31, .int 1), (r0, 16, 30, .int pe), (r0, 16, 9, .ref kp_)] [(kp_, 110, 3300, ca 1, fb)] [] H_15 locs_15 → (pt.toInt ≤ wt_15.toInt ∧ wt_15.toInt ≤ pe.toInt ∧ pe.toInt - wt_15.toInt ≤ kf ∧ jjD (jB8 fb) pe.toInt kf wt_15.toInt = jjDg (jB8 fb) pe.toInt pt.toInt) → (((pe.toInt - wt_15.toInt).toNat : Int) : Int) < N → ∀ ls : Array Slot, lv_has ls 1 [(0, .ref r0)] → W p l e R s m ([.ref r0] : List Value).toArray below meth c H_15 locs_15 0 0 Q (F0 m 15 ls []) := by
      intro N
      induction N with
      | zero => intro wt_15 kf H_15 locs_15 hh_15  hi_15 hm; exact absurd hm (by omega)
      | succ N L15 =>
        intro wt_15 kf H_15 locs_15 hh_15  hi_15 hm_15 ls hl
        obtain ⟨hi_15_0, hi_15_1, hi_15_2, hi_15_3⟩ := hi_15
        refine lv_aload_n hx hb dX14_digits_15 rfl (lv_at hl 0 rfl) ?_
        refine va_calli (A0 := jA base) (H0 := s.heap) (va_runV (As := []) (rest := []) ⟨hx, hb, hml, hown, hts⟩ (uX14_hereJ l dC dI ca base B hB hAp hB16 hB110 G0 H_15 r0 wt_15 pe kp_ fb) (cwV 0 hts (jgV (jWr_50 _ (List.mem_of_getElem? (i := 20) rfl)) (jWr_50 _ (List.mem_of_getElem? (i := 21) rfl)) (jWr_50 _ (List.mem_of_getElem? (i := 22) rfl)) (jWr_1 _ (List.mem_of_getElem? (i := 5) rfl)) (jWr_50 _ (List.mem_of_getElem? (i := 23) rfl))) rfl rfl rfl (by decide +kernel) ⟨by rw [← hR]; exact Nat.le_of_ble_eq_true rfl, by rw [← hR]; exact Nat.le_of_ble_eq_true rfl⟩) ⟨fun a U g mk q => by obtain ⟨q0, q1, q2, qK, q10, q11, q12, q13, q14⟩ := q; exact ⟨q0, q1, q2, jG.calling g mk a qK, q10, q11, q12, q13, q14⟩, hh_15.recv (C := RX14) (T := TX14) (N := 74) hB16 rfl (by decide) hg_r0 hK, fun U hU hW => ⟨rfl, hU, hh_15.2.1, hG.step hW hU hh_15.1, hg_r0, hg_kp_, (hh_15.2.2.1.sub (L1 := [(r0, 16, 29, .int wt_15), (r0, 16, 30, .int pe), (r0, 16, 9, .ref kp_)]) [0, 2, 3] rfl), (hh_15.2.2.2.2.2.2.2.1.sub (L1 := [(kp_, 110, 3300, ca 1, fb)]) [0] rfl), by first | omega | (refine ⟨?_, ?_, ?_, ?_⟩ <;> (first | omega | rfl | assumption | decide | exact Or.inl rfl | exact Or.inr rfl | (simp only; omega)))⟩⟩ rfl rfl hl.1 rfl (lv_room (Nat.le_of_ble_eq_true rfl)) dX14_digits_16 ⟨Nat.zero_le _, Nat.zero_le _⟩) hh_15.1 (fun q _ h => h) (fun q h => h) (fun r_17 u_16 t_16 H_16 locs_16 ht_16 hvm_16 hr_17 hb_16 hz_16 hk_16 hS_16 => ?_)
        rw [ht_16] at hb_16
        obtain ⟨hb_161, hb_162, hb_163, hb_164, hb_165⟩ := hb_16
        have hh_16 : jSt (dC, dI) B base G0 G0 EX14_digitsJ s.heap 0 0 [(r0, 16, 29, .int wt_15), (r0, 16, 31, .int 1), (r0, 16, 30, .int pe), (r0, 16, 9, .ref kp_)] [(kp_, 110, 3300, ca 1, fb)] [] H_16 locs_16 := ((hh_15.call hb_161 hb_162 hb_163 hb_164 hS_16 rfl (L1 := [(r0, 16, 29, .int wt_15), (r0, 16, 31, .int 1), (r0, 16, 30, .int pe), (r0, 16, 9, .ref kp_)]) [0, 1, 2, 3] rfl rfl (M1 := [(kp_, 110, 3300, ca 1, fb)]) [0] rfl rfl (I1 := []) [] rfl rfl).more hb_165)
        clear hh_15 ht_16 hvm_16 hz_16 hk_16 hS_16 hb_161 hb_162 hb_163 hb_164 hb_165
        obtain ⟨hr_17_0, hr_17_1, hr_17_2⟩ := hr_17
        refine va_calli (A0 := jA base) (H0 := s.heap) (va_runS (As := [.int r_17]) (rest := []) ⟨hx, hb, hml, hown, hts⟩ (uX14_isDigitJ l dC dI ca base B hB hAp G0 H_16 r_17) (va_cwS 1 hts (jgS (jWr_49 _ (List.mem_of_getElem? (i := 18) rfl)) (jWr_49 _ (List.mem_of_getElem? (i := 19) rfl)) (jWr_1 _ (List.mem_of_getElem? (i := 5) rfl)) (jWr_49 _ (List.mem_of_getElem? (i := 20) rfl))) rfl rfl rfl (by decide +kernel) ⟨by rw [← hR]; exact Nat.le_of_ble_eq_true rfl, by rw [← hR]; exact Nat.le_of_ble_eq_true rfl⟩) ⟨fun a U g mk q => by obtain ⟨q0, q1, q2, qK, q10, q11⟩ := q; exact ⟨q0, q1, q2, jG.calling g mk a qK, q10, q11⟩, fun U hU hW => ⟨rfl, hU, hh_16.2.1, hG.step hW hU hh_16.1, jP.nil, trivial⟩⟩ rfl rfl hl.1 rfl (lv_room (Nat.le_of_ble_eq_true rfl)) dX14_digits_19 ⟨Nat.zero_le _, Nat.zero_le _⟩) hh_16.1 (fun q _ h => h) (fun q h => h) (fun r_19 u_18 t_18 H_18 locs_18 ht_18 hvm_18 hr_19 hb_18 hz_18 hk_18 hS_18 => ?_)
        rw [ht_18] at hb_18
        obtain ⟨hb_181, hb_182, hb_183, hb_184, hb_185⟩ := hb_18
        have hh_18 : jSt (dC, dI) B base G0 G0 EX14_digitsJ s.heap 0 0 [(r0, 16, 29, .int wt_15), (r0, 16, 31, .int 1), (r0, 16, 30, .int pe), (r0, 16, 9, .ref kp_)] [(kp_, 110, 3300, ca 1, fb)] [] H_18 locs_18 := ((hh_16.call hb_181 hb_182 hb_183 hb_184 hS_18 rfl (L1 := [(r0, 16, 29, .int wt_15), (r0, 16, 31, .int 1), (r0, 16, 30, .int pe), (r0, 16, 9, .ref kp_)]) [0, 1, 2, 3] rfl rfl (M1 := [(kp_, 110, 3300, ca 1, fb)]) [0] rfl rfl (I1 := []) [] rfl rfl).more hb_185)
        clear hh_16 ht_18 hvm_18 hz_18 hk_18 hS_18 hb_181 hb_182 hb_183 hb_184 hb_185
        obtain ⟨hr_19b, hr_19p⟩ := hr_19
        have hr_19' := jb_01 hr_19b
        refine lv_if_eq (tgt := 38) hx hb dX14_digits_22 (by decide) (fun c_20 => ?_) (fun c_20 => ?_)
        · skip
          have c_20' : r_19.toInt = 0 := jb_eq (rfl) ((by decide)) c_20
          first | (have hr_19pq := hr_19p.resolve_left (by omega); clear hr_19p) | (have hr_19pq := hr_19p.resolve_right (by omega); clear hr_19p) | try clear hr_19p
          rw [hQ]
          exact W.vret hx hb hr (fun t ht hW => ⟨⟨(wt_15, 1), rfl, by (try dsimp only); have h8 := (jjDg.none (b := jB8 fb) (e := pe.toInt) hr_17_0 (by omega)); have h9 : wt_15.toInt = jjDg (jB8 fb) pe.toInt pt.toInt := (by rw [← hi_15_3]; exact (jjD_k hr_17_0 (by omega)).symm); exact ⟨h9, by omega, by omega, by omega⟩, hh_18.rt (M1 := [(r0, 16, 29, .int wt_15), (r0, 16, 31, .int 1)]) [0, 1] rfl ht⟩, by rw [ht]; try exact hh_18.1.1, fun q h9 hq => by rw [ht]; try exact hh_18.1.2.1 q h9 hq⟩) hh_18.1.2.2 dX14_digits_38
        · skip
          have c_20' : r_19.toInt ≠ 0 := jb_eq_n (rfl) ((by decide)) c_20
          first | (have hr_19pq := hr_19p.resolve_left (by omega); clear hr_19p) | (have hr_19pq := hr_19p.resolve_right (by omega); clear hr_19p) | try clear hr_19p
          have hlt9 := jjK.lt hr_17_0 (by omega)
          refine lv_aload_n hx hb dX14_digits_25 rfl (lv_at hl 0 rfl) ?_
          refine lv_dup hx hb dX14_digits_26 rfl ?_
          refine j7_read hx hb hown hK (C := RX14) (T := TX14) (N := 74) rfl hly_16_29 hlk_273 (hh_18.at 0 rfl) dX14_digits_27 ?_
          refine lv_iconst (v := 1) hx hb dX14_digits_30 (by decide) ?_
          refine lv_iadd hx hb dX14_digits_31 ?_
          refine lv_topi (fun z_21 ez_21 => ?_)
          have hz_21 : z_21.toInt = wt_15.toInt + 1 := by rw [ez_21]; exact jb_iadd2 (rfl) ((by decide)) (by omega)
          refine j7_put hx hb hown hK hh_18 hB hAp hB16 (C := RX14) (T := TX14) (N := 74) rfl (by decide) hg_r0 (i := 29) (by decide) hly_16_29 rfl hlk_273 rfl (ty := .int) (v := .int z_21) (by decide +kernel) rfl rfl (⟨_, rfl, by omega, by omega⟩) rfl (L1 := [(r0, 16, 31, .int 1), (r0, 16, 30, .int pe), (r0, 16, 9, .ref kp_)]) [1, 2, 3] rfl rfl rfl dX14_digits_32 (fun H_22 locs_22 hh_22 => ?_)
          clear hh_18
          refine lv_goto (tgt := 15) hx hb dX14_digits_35 (by decide) ?_
          exact L15 z_21 (kf - 1) _ _ hh_22 (by have hlt := jjK.lt hr_17_0 (by omega); refine ⟨by omega, by omega, by omega, ?_⟩; exact (jjD_y (by omega) (by omega) (by omega) (by omega) (by omega)).trans hi_15_3) (by omega) _ (lv_sub hl [0] rfl)
    exact L15 (((pe.toInt - (pt : Int32).toInt).toNat : Int) : Int).toNat.succ pt ((pe.toInt - pt.toInt).toNat) _ _ (hh_14.sub (L1 := [(r0, 16, 29, .int pt), (r0, 16, 31, .int 1), (r0, 16, 30, .int pe), (r0, 16, 9, .ref kp_)]) [1, 0, 2, 3] rfl (M1 := [(kp_, 110, 3300, ca 1, fb)]) [0] rfl (I1 := []) [] rfl) (by refine ⟨by omega, by omega, by omega, rfl⟩) (by omega) _ (lv_sub hl [0] rfl)
set_option maxHeartbeats 4000000 in
set_option maxRecDepth 20000 in
theorem uX14_hexOfJ (l : Launch) (dC : Nat → ClassId) (dI : Nat → Nat → Nat) (ca : Nat → ClassId) (base : Nat) (B : jF) (hB : jBok B) (hAp : jAp (dC, dI)) (G0 : jT) (H0 : Heap) (a0 : Int32) : Met l yX14_hexOf (jw yX14_hexOf cX14_hexOf 1 (some .int)) ({ frames := 2, cells := 0, slots := 0, locals := 42 }) (va_Pc [.int a0] (fun U => U.heap = H0 ∧ jX B base G0 [] H0 ∧ jG dC dI ca base U ∧ jP (dC, dI) G0 H0 [] ∧ True)) (va_Qi (S := Unit) (fun r u => (r.toInt = jjHx a0.toInt ∧ -1 ≤ r.toInt ∧ r.toInt ≤ 15)) (fun u t => jRt (dC, dI) B base G0 EX14_hexOfJ H0 [] t.heap) (jA base)) 0 0 (jA base) := by
  refine Met.ofW (cc := cX14_hexOf) (maxL := 1) (ret := (some .int)) (by decide) rfl ?_
  intro p e s m args below meth c s₁ Bd hml hv
  obtain ⟨rfl, hH0, hX, hG, hP0, hp0⟩ := hv
  have hK := hG.1
  have hx := Bd.exec
  have hb := Bd.bytes
  have hr := Bd.returns
  have hts := atoms_spec (ws := (jw yX14_hexOf cX14_hexOf 1 (some .int))) Bd.pre
  have htw : ∀ w ∈ jWl, w.before _ s = true := fun w h => hts w (List.mem_cons_of_mem _ h)
  have hown : s.vm.findClass RX14 = some m.cls := findClass_of_methodNamed Bd.named
  have hlocks := Bd.notSynchronized
  obtain ⟨Q, hQ⟩ : ∃ Q, Q = MQ below (va_Qi (S := Unit) (fun r u => (r.toInt = jjHx a0.toInt ∧ -1 ≤ r.toInt ∧ r.toInt ≤ 15)) (fun u t => jRt (dC, dI) B base G0 EX14_hexOfJ H0 [] t.heap) (jA base)) ([.int a0] : List Value).toArray s 0 0 (jA base) := ⟨_, rfl⟩
  rw [← hQ]
  have hl := lv_entry ([.int a0]) (n := 1) (Nat.le_of_ble_eq_true rfl)
  rw [lg_entry_eq]
  generalize (lg_sl ([.int a0]) ++ List.replicate (1 - (lg_sl ([.int a0])).length) Slot.unset).toArray = ls at hl ⊢
  have hl : lv_has ls 1 [(0, .int a0)] := hl
  generalize hR : (headSpec (jw yX14_hexOf cX14_hexOf 1 (some .int)) ({ frames := 2, cells := 0, slots := 0, locals := 42 })).room = R
  subst hH0
  have hh : jSt (dC, dI) B base G0 G0 EX14_hexOfJ s.heap 0 0 [] [] [] s.heap [] := jSt.start hX hP0 jMc.nil jIs.nil
  clear hX hP0
  have hkm1 : ((-1) : Int32).toInt = (-1) := by decide
  have hk0 : (0 : Int32).toInt = 0 := by decide
  have hk1 : (1 : Int32).toInt = 1 := by decide
  have hk10 : (10 : Int32).toInt = 10 := by decide
  have hk48 : (48 : Int32).toInt = 48 := by decide
  have hk65 : (65 : Int32).toInt = 65 := by decide
  have hk70 : (70 : Int32).toInt = 70 := by decide
  have hk97 : (97 : Int32).toInt = 97 := by decide
  have hk102 : (102 : Int32).toInt = 102 := by decide
  have hrg_a0 := jb_rng a0
  refine lv_iload_n hx hb dX14_hexOf_0 rfl (lv_at hl 0 rfl) ?_
  refine va_calli (A0 := jA base) (H0 := s.heap) (va_runS (As := [.int a0]) (rest := []) ⟨hx, hb, hml, hown, hts⟩ (uX14_isDigitJ l dC dI ca base B hB hAp G0 s.heap a0) (va_cwS 1 hts (jgS (jWr_49 _ (List.mem_of_getElem? (i := 18) rfl)) (jWr_49 _ (List.mem_of_getElem? (i := 19) rfl)) (jWr_1 _ (List.mem_of_getElem? (i := 5) rfl)) (jWr_49 _ (List.mem_of_getElem? (i := 20) rfl))) rfl rfl rfl (by decide +kernel) ⟨by rw [← hR]; exact Nat.le_of_ble_eq_true rfl, by rw [← hR]; exact Nat.le_of_ble_eq_true rfl⟩) ⟨fun a U g mk q => by obtain ⟨q0, q1, q2, qK, q10, q11⟩ := q; exact ⟨q0, q1, q2, jG.calling g mk a qK, q10, q11⟩, fun U hU hW => ⟨rfl, hU, hh.2.1, hG.step hW hU hh.1, jP.nil, trivial⟩⟩ rfl rfl hl.1 rfl (lv_room (Nat.le_of_ble_eq_true rfl)) dX14_hexOf_1 ⟨Nat.zero_le _, Nat.zero_le _⟩) hh.1 (fun q _ h => h) (fun q h => h) (fun r_2 u_1 t_1 H_1 locs_1 ht_1 hvm_1 hr_2 hb_1 hz_1 hk_1 hS_1 => ?_)
  rw [ht_1] at hb_1
  obtain ⟨hb_11, hb_12, hb_13, hb_14, hb_15⟩ := hb_1
  have hh_1 : jSt (dC, dI) B base G0 G0 EX14_hexOfJ s.heap 0 0 [] [] [] H_1 locs_1 := ((hh.call hb_11 hb_12 hb_13 hb_14 hS_1 rfl (L1 := []) [] rfl rfl (M1 := []) [] rfl rfl (I1 := []) [] rfl rfl).more hb_15)
  clear hh ht_1 hvm_1 hz_1 hk_1 hS_1 hb_11 hb_12 hb_13 hb_14 hb_15
  obtain ⟨hr_2b, hr_2p⟩ := hr_2
  have hr_2' := jb_01 hr_2b
  refine lv_if_eq (tgt := 14) hx hb dX14_hexOf_4 (by decide) (fun c_3 => ?_) (fun c_3 => ?_)
  · skip
    have c_3' : r_2.toInt = 0 := jb_eq (rfl) ((by decide)) c_3
    first | (have hr_2pq := hr_2p.resolve_left (by omega); clear hr_2p) | (have hr_2pq := hr_2p.resolve_right (by omega); clear hr_2p) | try clear hr_2p
    refine lv_iload_n hx hb dX14_hexOf_14 rfl (lv_at hl 0 rfl) ?_
    refine lv_bipush (v := 97) hx hb dX14_hexOf_15 (by decide) ?_
    refine lv_bipush (v := 102) hx hb dX14_hexOf_17 (by decide) ?_
    refine va_calli (A0 := jA base) (H0 := s.heap) (va_runS (As := [.int a0, .int 97, .int 102]) (rest := []) ⟨hx, hb, hml, hown, hts⟩ (uX14_in l dC dI ca base B hB hAp G0 H_1 a0 97 102) (va_cwS 3 hts (jgS (jWr_48 _ (List.mem_of_getElem? (i := 10) rfl)) (jWr_48 _ (List.mem_of_getElem? (i := 11) rfl)) (jWr_1 _ (List.mem_of_getElem? (i := 5) rfl)) (jWr_48 _ (List.mem_of_getElem? (i := 12) rfl))) rfl rfl rfl (by decide +kernel) ⟨by rw [← hR]; exact Nat.le_of_ble_eq_true rfl, by rw [← hR]; exact Nat.le_of_ble_eq_true rfl⟩) ⟨fun a U g mk q => by obtain ⟨q0, q1, q2, qK, q10, q11⟩ := q; exact ⟨q0, q1, q2, jG.calling g mk a qK, q10, q11⟩, fun U hU hW => ⟨rfl, hU, hh_1.2.1, hG.step hW hU hh_1.1, jP.nil, trivial⟩⟩ rfl rfl hl.1 rfl (lv_room (Nat.le_of_ble_eq_true rfl)) dX14_hexOf_19 ⟨Nat.zero_le _, Nat.zero_le _⟩) hh_1.1 (fun q _ h => h) (fun q h => h) (fun r_5 u_4 t_4 H_4 locs_4 ht_4 hvm_4 hr_5 hb_4 hz_4 hk_4 hS_4 => ?_)
    rw [ht_4] at hb_4
    obtain ⟨hb_41, hb_42, hb_43, hb_44, hb_45⟩ := hb_4
    have hh_4 : jSt (dC, dI) B base G0 G0 EX14_hexOfJ s.heap 0 0 [] [] [] H_4 locs_4 := ((hh_1.call hb_41 hb_42 hb_43 hb_44 hS_4 rfl (L1 := []) [] rfl rfl (M1 := []) [] rfl rfl (I1 := []) [] rfl rfl).more hb_45)
    clear hh_1 ht_4 hvm_4 hz_4 hk_4 hS_4 hb_41 hb_42 hb_43 hb_44 hb_45
    obtain ⟨hr_5b, hr_5p⟩ := hr_5
    obtain ⟨hr_5p_0, hr_5p_1, hr_5p_2⟩ := hr_5p
    have hr_5' := jb_01 hr_5b
    have hi1 := jIn.or a0.toInt (97 : Int32).toInt (102 : Int32).toInt
    refine lv_if_eq (tgt := 35) hx hb dX14_hexOf_22 (by decide) (fun c_6 => ?_) (fun c_6 => ?_)
    · skip
      have c_6' : r_5.toInt = 0 := jb_eq (rfl) ((by decide)) c_6
      refine lv_iload_n hx hb dX14_hexOf_35 rfl (lv_at hl 0 rfl) ?_
      refine lv_bipush (v := 65) hx hb dX14_hexOf_36 (by decide) ?_
      refine lv_bipush (v := 70) hx hb dX14_hexOf_38 (by decide) ?_
      refine va_calli (A0 := jA base) (H0 := s.heap) (va_runS (As := [.int a0, .int 65, .int 70]) (rest := []) ⟨hx, hb, hml, hown, hts⟩ (uX14_in l dC dI ca base B hB hAp G0 H_4 a0 65 70) (va_cwS 3 hts (jgS (jWr_48 _ (List.mem_of_getElem? (i := 10) rfl)) (jWr_48 _ (List.mem_of_getElem? (i := 11) rfl)) (jWr_1 _ (List.mem_of_getElem? (i := 5) rfl)) (jWr_48 _ (List.mem_of_getElem? (i := 12) rfl))) rfl rfl rfl (by decide +kernel) ⟨by rw [← hR]; exact Nat.le_of_ble_eq_true rfl, by rw [← hR]; exact Nat.le_of_ble_eq_true rfl⟩) ⟨fun a U g mk q => by obtain ⟨q0, q1, q2, qK, q10, q11⟩ := q; exact ⟨q0, q1, q2, jG.calling g mk a qK, q10, q11⟩, fun U hU hW => ⟨rfl, hU, hh_4.2.1, hG.step hW hU hh_4.1, jP.nil, trivial⟩⟩ rfl rfl hl.1 rfl (lv_room (Nat.le_of_ble_eq_true rfl)) dX14_hexOf_40 ⟨Nat.zero_le _, Nat.zero_le _⟩) hh_4.1 (fun q _ h => h) (fun q h => h) (fun r_8 u_7 t_7 H_7 locs_7 ht_7 hvm_7 hr_8 hb_7 hz_7 hk_7 hS_7 => ?_)
      rw [ht_7] at hb_7
      obtain ⟨hb_71, hb_72, hb_73, hb_74, hb_75⟩ := hb_7
      have hh_7 : jSt (dC, dI) B base G0 G0 EX14_hexOfJ s.heap 0 0 [] [] [] H_7 locs_7 := ((hh_4.call hb_71 hb_72 hb_73 hb_74 hS_7 rfl (L1 := []) [] rfl rfl (M1 := []) [] rfl rfl (I1 := []) [] rfl rfl).more hb_75)
      clear hh_4 ht_7 hvm_7 hz_7 hk_7 hS_7 hb_71 hb_72 hb_73 hb_74 hb_75
      obtain ⟨hr_8b, hr_8p⟩ := hr_8
      obtain ⟨hr_8p_0, hr_8p_1, hr_8p_2⟩ := hr_8p
      have hr_8' := jb_01 hr_8b
      have hi2 := jIn.or a0.toInt (65 : Int32).toInt (70 : Int32).toInt
      refine lv_if_eq (tgt := 56) hx hb dX14_hexOf_43 (by decide) (fun c_9 => ?_) (fun c_9 => ?_)
      · skip
        have c_9' : r_8.toInt = 0 := jb_eq (rfl) ((by decide)) c_9
        refine lv_iconst (v := (-1)) hx hb dX14_hexOf_56 (by decide) ?_
        rw [hQ]
        exact W.iret (v := (-1)) hx hb hr (fun t ht hW => ⟨⟨(-1), (), rfl, by refine ⟨?_, by omega, by omega⟩; exact hkm1.trans (jjHx.n (by omega) (by omega) (by omega)), hh_7.rt (M1 := []) [] rfl ht⟩, by rw [ht]; try exact hh_7.1.1, fun q h9 hq => by rw [ht]; try exact hh_7.1.2.1 q h9 hq⟩) hh_7.1.2.2 dX14_hexOf_57
      · skip
        have c_9' : r_8.toInt ≠ 0 := jb_eq_n (rfl) ((by decide)) c_9
        refine lv_iload_n hx hb dX14_hexOf_46 rfl (lv_at hl 0 rfl) ?_
        refine lv_bipush (v := 65) hx hb dX14_hexOf_47 (by decide) ?_
        refine lv_isub hx hb dX14_hexOf_49 ?_
        refine lv_topi (fun z_10 ez_10 => ?_)
        have hz_10 : z_10.toInt = a0.toInt - 65 := by rw [ez_10]; exact jb_isub2 (rfl) ((by decide)) (by omega)
        refine lv_bipush (v := 10) hx hb dX14_hexOf_50 (by decide) ?_
        refine lv_iadd hx hb dX14_hexOf_52 ?_
        refine lv_topi (fun z_11 ez_11 => ?_)
        have hz_11 : z_11.toInt = z_10.toInt + 10 := by rw [ez_11]; exact jb_iadd2 (rfl) ((by decide)) (by omega)
        refine lv_goto (tgt := 57) hx hb dX14_hexOf_53 (by decide) ?_
        rw [hQ]
        exact W.iret (v := z_11) hx hb hr (fun t ht hW => ⟨⟨z_11, (), rfl, by refine ⟨?_, by omega, by omega⟩; first | exact jjHx.A (by omega) (by omega) | (rw [← jjHx.A (c := a0.toInt) (by omega) (by omega)]; omega), hh_7.rt (M1 := []) [] rfl ht⟩, by rw [ht]; try exact hh_7.1.1, fun q h9 hq => by rw [ht]; try exact hh_7.1.2.1 q h9 hq⟩) hh_7.1.2.2 dX14_hexOf_57
    · skip
      have c_6' : r_5.toInt ≠ 0 := jb_eq_n (rfl) ((by decide)) c_6
      refine lv_iload_n hx hb dX14_hexOf_25 rfl (lv_at hl 0 rfl) ?_
      refine lv_bipush (v := 97) hx hb dX14_hexOf_26 (by decide) ?_
      refine lv_isub hx hb dX14_hexOf_28 ?_
      refine lv_topi (fun z_12 ez_12 => ?_)
      have hz_12 : z_12.toInt = a0.toInt - 97 := by rw [ez_12]; exact jb_isub2 (rfl) ((by decide)) (by omega)
      refine lv_bipush (v := 10) hx hb dX14_hexOf_29 (by decide) ?_
      refine lv_iadd hx hb dX14_hexOf_31 ?_
      refine lv_topi (fun z_13 ez_13 => ?_)
      have hz_13 : z_13.toInt = z_12.toInt + 10 := by rw [ez_13]; exact jb_iadd2 (rfl) ((by decide)) (by omega)
      refine lv_goto (tgt := 57) hx hb dX14_hexOf_32 (by decide) ?_
      rw [hQ]
      exact W.iret (v := z_13) hx hb hr (fun t ht hW => ⟨⟨z_13, (), rfl, by refine ⟨?_, by omega, by omega⟩; first | exact jjHx.a (by omega) (by omega) | (rw [← jjHx.a (c := a0.toInt) (by omega) (by omega)]; omega), hh_4.rt (M1 := []) [] rfl ht⟩, by rw [ht]; try exact hh_4.1.1, fun q h9 hq => by rw [ht]; try exact hh_4.1.2.1 q h9 hq⟩) hh_4.1.2.2 dX14_hexOf_57
  · skip
    have c_3' : r_2.toInt ≠ 0 := jb_eq_n (rfl) ((by decide)) c_3
    first | (have hr_2pq := hr_2p.resolve_left (by omega); clear hr_2p) | (have hr_2pq := hr_2p.resolve_right (by omega); clear hr_2p) | try clear hr_2p
    refine lv_iload_n hx hb dX14_hexOf_7 rfl (lv_at hl 0 rfl) ?_
    refine lv_bipush (v := 48) hx hb dX14_hexOf_8 (by decide) ?_
    refine lv_isub hx hb dX14_hexOf_10 ?_
    refine lv_topi (fun z_14 ez_14 => ?_)
    have hz_14 : z_14.toInt = a0.toInt - 48 := by rw [ez_14]; exact jb_isub2 (rfl) ((by decide)) (by omega)
    refine lv_goto (tgt := 57) hx hb dX14_hexOf_11 (by decide) ?_
    rw [hQ]
    exact W.iret (v := z_14) hx hb hr (fun t ht hW => ⟨⟨z_14, (), rfl, by refine ⟨?_, by omega, by omega⟩; first | exact jjHx.d (by omega) (by omega) | (rw [← jjHx.d (c := a0.toInt) (by omega) (by omega)]; omega), hh_1.rt (M1 := []) [] rfl ht⟩, by rw [ht]; try exact hh_1.1.1, fun q h9 hq => by rw [ht]; try exact hh_1.1.2.1 q h9 hq⟩) hh_1.1.2.2 dX14_hexOf_57
set_option maxHeartbeats 4000000 in
set_option maxRecDepth 20000 in
theorem uX14_fourJ (l : Launch) (dC : Nat → ClassId) (dI : Nat → Nat → Nat) (ca : Nat → ClassId) (base : Nat) (B : jF) (hB : jBok B) (hAp : jAp (dC, dI)) (hB16 : ∀ n G a H, B 16 n G a H ↔ jOb (dC, dI) 16 74 (F16 n G) a H) (hB110 : ∀ n G a H, B 110 n G a H ↔ jAr (dC, dI) (ca 1) (fun j z => 0 ≤ z.toInt ∧ z.toInt ≤ 255) n a H) (G0 : jT) (H0 : Heap) (r0 : Nat) (pt : Int32) (pe : Int32) (kp_ : Nat) (pb : Int32) (fb : Nat → Int32) : Met l yX14_four (jw yX14_four cX14_four 4 (some .int)) ({ frames := 3, cells := 0, slots := 0, locals := 62 }) (va_Pc [.ref r0] (fun U => U.heap = H0 ∧ jX B base G0 [] H0 ∧ jG dC dI ca base U ∧ G0 r0 = some (16, 0) ∧ G0 kp_ = some (110, 3300) ∧ jP (dC, dI) G0 H0 [(r0, 16, 29, .int pt), (r0, 16, 30, .int pe), (r0, 16, 9, .ref kp_), (r0, 16, 31, .int pb)] ∧ jMc (dC, dI) G0 H0 [(kp_, 110, 3300, ca 1, fb)] ∧ 0 ≤ pt.toInt ∧ pt.toInt ≤ 90000 ∧ 0 ≤ pe.toInt ∧ pe.toInt ≤ 3000 ∧ pt.toInt ≤ pe.toInt ∧ pb.toInt = 0)) (va_Qi (S := Int32 × Int32) (fun r u => (r.toInt = jjF (jB8 fb) pe.toInt 4 pt.toInt 0 ∧ -1 ≤ r.toInt ∧ r.toInt ≤ 65535 ∧ pt.toInt ≤ u.1.toInt ∧ u.1.toInt ≤ pe.toInt ∧ ((r.toInt = -1 ∧ u.2.toInt = 1) ∨ (0 ≤ r.toInt ∧ u.1.toInt = pt.toInt + 4 ∧ u.2.toInt = 0)))) (fun u t => jRt (dC, dI) B base G0 EX14_fourJ H0 [(r0, 16, 29, .int u.1), (r0, 16, 31, .int u.2)] t.heap) (jA base)) 0 0 (jA base) := by
  refine Met.ofW (cc := cX14_four) (maxL := 4) (ret := (some .int)) (by decide) rfl ?_
  intro p e s m args below meth c s₁ Bd hml hv
  obtain ⟨rfl, hH0, hX, hG, hg_r0, hg_kp_, hP0, hM0, hp0, hp1, hp2, hp3, hp4, hp5⟩ := hv
  have hK := hG.1
  have hx := Bd.exec
  have hb := Bd.bytes
  have hr := Bd.returns
  have hts := atoms_spec (ws := (jw yX14_four cX14_four 4 (some .int))) Bd.pre
  have htw : ∀ w ∈ jWl, w.before _ s = true := fun w h => hts w (List.mem_cons_of_mem _ h)
  have hown : s.vm.findClass RX14 = some m.cls := findClass_of_methodNamed Bd.named
  have hlocks := Bd.notSynchronized
  obtain ⟨Q, hQ⟩ : ∃ Q, Q = MQ below (va_Qi (S := Int32 × Int32) (fun r u => (r.toInt = jjF (jB8 fb) pe.toInt 4 pt.toInt 0 ∧ -1 ≤ r.toInt ∧ r.toInt ≤ 65535 ∧ pt.toInt ≤ u.1.toInt ∧ u.1.toInt ≤ pe.toInt ∧ ((r.toInt = -1 ∧ u.2.toInt = 1) ∨ (0 ≤ r.toInt ∧ u.1.toInt = pt.toInt + 4 ∧ u.2.toInt = 0)))) (fun u t => jRt (dC, dI) B base G0 EX14_fourJ H0 [(r0, 16, 29, .int u.1), (r0, 16, 31, .int u.2)] t.heap) (jA base)) ([.ref r0] : List Value).toArray s 0 0 (jA base) := ⟨_, rfl⟩
  rw [← hQ]
  have hl := lv_entry ([.ref r0]) (n := 4) (Nat.le_of_ble_eq_true rfl)
  rw [lg_entry_eq]
  generalize (lg_sl ([.ref r0]) ++ List.replicate (4 - (lg_sl ([.ref r0])).length) Slot.unset).toArray = ls at hl ⊢
  have hl : lv_has ls 4 [(0, .ref r0)] := hl
  generalize hR : (headSpec (jw yX14_four cX14_four 4 (some .int)) ({ frames := 3, cells := 0, slots := 0, locals := 62 })).room = R
  subst hH0
  have hh : jSt (dC, dI) B base G0 G0 EX14_fourJ s.heap 0 0 [(r0, 16, 29, .int pt), (r0, 16, 30, .int pe), (r0, 16, 9, .ref kp_), (r0, 16, 31, .int pb)] [(kp_, 110, 3300, ca 1, fb)] [] s.heap [] := jSt.start hX hP0 hM0 jIs.nil
  clear hX hP0
  have hkm1 : ((-1) : Int32).toInt = (-1) := by decide
  have hk0 : (0 : Int32).toInt = 0 := by decide
  have hk1 : (1 : Int32).toInt = 1 := by decide
  have hk4 : (4 : Int32).toInt = 4 := by decide
  have hk16 : (16 : Int32).toInt = 16 := by decide
  have hly_16_29 := htw (u_lay RX14 TX14 29) (jWc_wsX140 _ (u_in_lay (by decide)))
  have hly_16_31 := htw (u_lay RX14 TX14 31) (jWc_wsX140 _ (u_in_lay (by decide)))
  have hlk_288 := (htw (.fieldLink RX14 288 "ProofServerModel" "bad" "Z") (jWr_50 _ (List.mem_of_getElem? (i := 9) rfl)))
  have hlk_273 := (htw (.fieldLink RX14 273 "ProofServerModel" "at" "I") (jWr_50 _ (List.mem_of_getElem? (i := 5) rfl)))
  refine lv_iconst (v := 0) hx hb dX14_four_0 (by decide) ?_
  refine lv_istore_n (lv' := [(1, .int 0), (0, .ref r0)]) hx hb dX14_four_1 rfl hl (by decide) rfl (fun ls hl => ?_)
  refine lv_iconst (v := 0) hx hb dX14_four_2 (by decide) ?_
  refine lv_istore_n (lv' := [(2, .int 0), (1, .int 0), (0, .ref r0)]) hx hb dX14_four_3 rfl hl (by decide) rfl (fun ls hl => ?_)
  have L4 : ∀ (N : Nat) (v1_1 : Int32) (v2_1 : Int32) (wt_1 : Int32) (H_1 : Heap) (locs_1 : List Loc), jSt (dC, dI) B base G0 G0 EX14_fourJ s.heap 0 0 [(r0, 16, 29, .int wt_1), (r0, 16, 30, .int pe), (r0, 16, 9, .ref kp_), (r0, 16, 31, .int pb)] [(kp_, 110, 3300, ca 1, fb)] [] H_1 locs_1 → (0 ≤ v2_1.toInt ∧ v2_1.toInt ≤ 4 ∧ wt_1.toInt = pt.toInt + v2_1.toInt ∧ wt_1.toInt ≤ pe.toInt ∧ jjFb v2_1.toInt v1_1.toInt ∧ jjF (jB8 fb) pe.toInt (4 - v2_1.toInt).toNat wt_1.toInt v1_1.toInt = jjF (jB8 fb) pe.toInt 4 pt.toInt 0) → (4 - v2_1.toInt : Int) < N → ∀ ls : Array Slot, lv_has ls 4 [(0, .ref r0), (1, .int v1_1), (2, .int v2_1)] → W p l e R s m ([.ref r0] : List Value).toArray below meth c H_1 locs_1 0 0 Q (F0 m 4 ls []) := by
    intro N
    induction N with
    | zero => intro v1_1 v2_1 wt_1 H_1 locs_1 hh_1  hi_1 hm; exact absurd hm (by omega)
    | succ N L4 =>
      intro v1_1 v2_1 wt_1 H_1 locs_1 hh_1  hi_1 hm_1 ls hl
      obtain ⟨hi_1_0, hi_1_1, hi_1_2, hi_1_3, hi_1_4, hi_1_5⟩ := hi_1
      refine lv_iload_n hx hb dX14_four_4 rfl (lv_at hl 2 rfl) ?_
      refine lv_iconst (v := 4) hx hb dX14_four_5 (by decide) ?_
      refine lv_icmp_ge (tgt := 51) hx hb dX14_four_6 (by decide) (fun c_2 => ?_) (fun c_2 => ?_)
      · skip
        have c_2' : v2_1.toInt ≥ 4 := jb_ge (rfl) ((by decide)) c_2
        refine lv_iload_n hx hb dX14_four_51 rfl (lv_at hl 1 rfl) ?_
        rw [hQ]
        exact W.iret (v := v1_1) hx hb hr (fun t ht hW => ⟨⟨v1_1, (wt_1, pb), rfl, by (try dsimp only); have hr9 := hi_1_4.r; refine ⟨?_, by omega, by omega, by omega, by omega, by omega⟩; have h9 := hi_1_5; rw [show (4 - v2_1.toInt).toNat = 0 by omega] at h9; exact h9, hh_1.rt (M1 := [(r0, 16, 29, .int wt_1), (r0, 16, 31, .int pb)]) [0, 3] rfl ht⟩, by rw [ht]; try exact hh_1.1.1, fun q h9 hq => by rw [ht]; try exact hh_1.1.2.1 q h9 hq⟩) hh_1.1.2.2 dX14_four_52
      · skip
        have c_2' : v2_1.toInt < 4 := jb_ge_n (rfl) ((by decide)) c_2
        refine lv_aload_n hx hb dX14_four_9 rfl (lv_at hl 0 rfl) ?_
        refine va_calli (A0 := jA base) (H0 := s.heap) (va_runV (As := []) (rest := []) ⟨hx, hb, hml, hown, hts⟩ (uX14_hereJ l dC dI ca base B hB hAp hB16 hB110 G0 H_1 r0 wt_1 pe kp_ fb) (cwV 0 hts (jgV (jWr_50 _ (List.mem_of_getElem? (i := 20) rfl)) (jWr_50 _ (List.mem_of_getElem? (i := 21) rfl)) (jWr_50 _ (List.mem_of_getElem? (i := 22) rfl)) (jWr_1 _ (List.mem_of_getElem? (i := 5) rfl)) (jWr_50 _ (List.mem_of_getElem? (i := 23) rfl))) rfl rfl rfl (by decide +kernel) ⟨by rw [← hR]; exact Nat.le_of_ble_eq_true rfl, by rw [← hR]; exact Nat.le_of_ble_eq_true rfl⟩) ⟨fun a U g mk q => by obtain ⟨q0, q1, q2, qK, q10, q11, q12, q13, q14⟩ := q; exact ⟨q0, q1, q2, jG.calling g mk a qK, q10, q11, q12, q13, q14⟩, hh_1.recv (C := RX14) (T := TX14) (N := 74) hB16 rfl (by decide) hg_r0 hK, fun U hU hW => ⟨rfl, hU, hh_1.2.1, hG.step hW hU hh_1.1, hg_r0, hg_kp_, (hh_1.2.2.1.sub (L1 := [(r0, 16, 29, .int wt_1), (r0, 16, 30, .int pe), (r0, 16, 9, .ref kp_)]) [0, 1, 2] rfl), (hh_1.2.2.2.2.2.2.2.1.sub (L1 := [(kp_, 110, 3300, ca 1, fb)]) [0] rfl), by first | omega | (refine ⟨?_, ?_, ?_, ?_⟩ <;> (first | omega | rfl | assumption | decide | exact Or.inl rfl | exact Or.inr rfl | (simp only; omega)))⟩⟩ rfl rfl hl.1 rfl (lv_room (Nat.le_of_ble_eq_true rfl)) dX14_four_10 ⟨Nat.zero_le _, Nat.zero_le _⟩) hh_1.1 (fun q _ h => h) (fun q h => h) (fun r_4 u_3 t_3 H_3 locs_3 ht_3 hvm_3 hr_4 hb_3 hz_3 hk_3 hS_3 => ?_)
        rw [ht_3] at hb_3
        obtain ⟨hb_31, hb_32, hb_33, hb_34, hb_35⟩ := hb_3
        have hh_3 : jSt (dC, dI) B base G0 G0 EX14_fourJ s.heap 0 0 [(r0, 16, 29, .int wt_1), (r0, 16, 30, .int pe), (r0, 16, 9, .ref kp_), (r0, 16, 31, .int pb)] [(kp_, 110, 3300, ca 1, fb)] [] H_3 locs_3 := ((hh_1.call hb_31 hb_32 hb_33 hb_34 hS_3 rfl (L1 := [(r0, 16, 29, .int wt_1), (r0, 16, 30, .int pe), (r0, 16, 9, .ref kp_), (r0, 16, 31, .int pb)]) [0, 1, 2, 3] rfl rfl (M1 := [(kp_, 110, 3300, ca 1, fb)]) [0] rfl rfl (I1 := []) [] rfl rfl).more hb_35)
        clear hh_1 ht_3 hvm_3 hz_3 hk_3 hS_3 hb_31 hb_32 hb_33 hb_34 hb_35
        obtain ⟨hr_4_0, hr_4_1, hr_4_2⟩ := hr_4
        refine va_calli (A0 := jA base) (H0 := s.heap) (va_runS (As := [.int r_4]) (rest := []) ⟨hx, hb, hml, hown, hts⟩ (uX14_hexOfJ l dC dI ca base B hB hAp G0 H_3 r_4) (va_cwS 1 hts (jgS (jWr_52 _ (List.mem_of_getElem? (i := 7) rfl)) (jWr_52 _ (List.mem_of_getElem? (i := 8) rfl)) (jWr_1 _ (List.mem_of_getElem? (i := 5) rfl)) (jWr_52 _ (List.mem_of_getElem? (i := 9) rfl))) rfl rfl rfl (by decide +kernel) ⟨by rw [← hR]; exact Nat.le_of_ble_eq_true rfl, by rw [← hR]; exact Nat.le_of_ble_eq_true rfl⟩) ⟨fun a U g mk q => by obtain ⟨q0, q1, q2, qK, q10, q11⟩ := q; exact ⟨q0, q1, q2, jG.calling g mk a qK, q10, q11⟩, fun U hU hW => ⟨rfl, hU, hh_3.2.1, hG.step hW hU hh_3.1, jP.nil, trivial⟩⟩ rfl rfl hl.1 rfl (lv_room (Nat.le_of_ble_eq_true rfl)) dX14_four_13 ⟨Nat.zero_le _, Nat.zero_le _⟩) hh_3.1 (fun q _ h => h) (fun q h => h) (fun r_6 u_5 t_5 H_5 locs_5 ht_5 hvm_5 hr_6 hb_5 hz_5 hk_5 hS_5 => ?_)
        rw [ht_5] at hb_5
        obtain ⟨hb_51, hb_52, hb_53, hb_54, hb_55⟩ := hb_5
        have hh_5 : jSt (dC, dI) B base G0 G0 EX14_fourJ s.heap 0 0 [(r0, 16, 29, .int wt_1), (r0, 16, 30, .int pe), (r0, 16, 9, .ref kp_), (r0, 16, 31, .int pb)] [(kp_, 110, 3300, ca 1, fb)] [] H_5 locs_5 := ((hh_3.call hb_51 hb_52 hb_53 hb_54 hS_5 rfl (L1 := [(r0, 16, 29, .int wt_1), (r0, 16, 30, .int pe), (r0, 16, 9, .ref kp_), (r0, 16, 31, .int pb)]) [0, 1, 2, 3] rfl rfl (M1 := [(kp_, 110, 3300, ca 1, fb)]) [0] rfl rfl (I1 := []) [] rfl rfl).more hb_55)
        clear hh_3 ht_5 hvm_5 hz_5 hk_5 hS_5 hb_51 hb_52 hb_53 hb_54 hb_55
        obtain ⟨hr_6_0, hr_6_1, hr_6_2⟩ := hr_6
        refine lv_istore_n (lv' := [(3, .int r_6), (0, .ref r0), (1, .int v1_1), (2, .int v2_1)]) hx hb dX14_four_16 rfl hl (by decide) rfl (fun ls hl => ?_)
        refine lv_iload_n hx hb dX14_four_17 rfl (lv_at hl 0 rfl) ?_
        refine lv_if_ge (tgt := 28) hx hb dX14_four_18 (by decide) (fun c_7 => ?_) (fun c_7 => ?_)
        · skip
          have c_7' : r_6.toInt ≥ 0 := jb_ge (rfl) ((by decide)) c_7
          have hfr := hi_1_4.r
          have hlt9 := jjHx.k (b := jB8 fb) (e := pe.toInt) (a := wt_1.toInt) (by rw [← hr_4_0, ← hr_6_0]; omega)
          refine lv_bipush (v := 16) hx hb dX14_four_28 (by decide) ?_
          refine lv_iload_n hx hb dX14_four_30 rfl (lv_at hl 2 rfl) ?_
          refine lv_imul hx hb dX14_four_31 ?_
          refine lv_topi (fun z_8 ez_8 => ?_)
          have hz_8 : z_8.toInt = 16 * v1_1.toInt := by rw [ez_8]; exact jb_imul2 ((by decide)) (rfl) (by omega)
          refine lv_iload_n hx hb dX14_four_32 rfl (lv_at hl 0 rfl) ?_
          refine lv_iadd hx hb dX14_four_33 ?_
          refine lv_topi (fun z_9 ez_9 => ?_)
          have hz_9 : z_9.toInt = z_8.toInt + r_6.toInt := by rw [ez_9]; exact jb_iadd2 (rfl) (rfl) (by omega)
          refine lv_istore_n (lv' := [(1, .int z_9), (3, .int r_6), (0, .ref r0), (2, .int v2_1)]) hx hb dX14_four_34 rfl hl (by decide) rfl (fun ls hl => ?_)
          refine lv_aload_n hx hb dX14_four_35 rfl (lv_at hl 2 rfl) ?_
          refine lv_dup hx hb dX14_four_36 rfl ?_
          refine j7_read hx hb hown hK (C := RX14) (T := TX14) (N := 74) rfl hly_16_29 hlk_273 (hh_5.at 0 rfl) dX14_four_37 ?_
          refine lv_iconst (v := 1) hx hb dX14_four_40 (by decide) ?_
          refine lv_iadd hx hb dX14_four_41 ?_
          refine lv_topi (fun z_10 ez_10 => ?_)
          have hz_10 : z_10.toInt = wt_1.toInt + 1 := by rw [ez_10]; exact jb_iadd2 (rfl) ((by decide)) (by omega)
          refine j7_put hx hb hown hK hh_5 hB hAp hB16 (C := RX14) (T := TX14) (N := 74) rfl (by decide) hg_r0 (i := 29) (by decide) hly_16_29 rfl hlk_273 rfl (ty := .int) (v := .int z_10) (by decide +kernel) rfl rfl (⟨_, rfl, by omega, by omega⟩) rfl (L1 := [(r0, 16, 30, .int pe), (r0, 16, 9, .ref kp_), (r0, 16, 31, .int pb)]) [1, 2, 3] rfl rfl rfl dX14_four_42 (fun H_11 locs_11 hh_11 => ?_)
          clear hh_5
          obtain ⟨z_12, ez_12⟩ : ∃ y : Int32, y = v2_1 + 1 := ⟨_, rfl⟩
          refine lv_iinc (v := z_12) (lv' := [(2, .int z_12), (1, .int z_9), (3, .int r_6), (0, .ref r0)]) hx hb dX14_four_45 hl (k := 3) rfl (by rw [ez_12]; rfl) (by decide) rfl (fun ls hl => ?_)
          have hz_12 : z_12.toInt = v2_1.toInt + 1 := by rw [ez_12]; exact jb_iadd2 (rfl) (by decide) (by omega)
          refine lv_goto (tgt := 4) hx hb dX14_four_48 (by decide) ?_
          exact L4 z_9 z_12 z_10 _ _ hh_11 (by have hlt := jjHx.k (b := jB8 fb) (e := pe.toInt) (a := wt_1.toInt) (by rw [← hr_4_0, ← hr_6_0]; omega); refine ⟨by omega, by omega, by omega, by omega, hi_1_4.step (d := r_6.toInt) (by omega) (by omega) (by omega) (by omega) (by omega), ?_⟩; rw [show (4 - (z_12).toInt).toNat = (4 - v2_1.toInt).toNat - 1 by omega]; exact (jjF_y hr_4_0 hr_6_0 (by omega) (by omega) (by omega) (by omega)).trans hi_1_5) (by omega) _ (lv_sub hl [3, 1, 0] rfl)
        · skip
          have c_7' : r_6.toInt < 0 := jb_ge_n (rfl) ((by decide)) c_7
          refine lv_aload_n hx hb dX14_four_21 rfl (lv_at hl 1 rfl) ?_
          refine lv_iconst (v := 1) hx hb dX14_four_22 (by decide) ?_
          refine j7_put hx hb hown hK hh_5 hB hAp hB16 (C := RX14) (T := TX14) (N := 74) rfl (by decide) hg_r0 (i := 31) (by decide) hly_16_31 rfl hlk_288 rfl (ty := .boolean) (v := .int 1) (by decide +kernel) (jb_nz (Or.inr rfl)) (jb_fz (Or.inr rfl)) (⟨_, rfl, (Or.inr rfl)⟩) rfl (L1 := [(r0, 16, 29, .int wt_1), (r0, 16, 30, .int pe), (r0, 16, 9, .ref kp_)]) [0, 1, 2] rfl rfl rfl dX14_four_23 (fun H_13 locs_13 hh_13 => ?_)
          clear hh_5
          refine lv_iconst (v := (-1)) hx hb dX14_four_26 (by decide) ?_
          rw [hQ]
          exact W.iret (v := (-1)) hx hb hr (fun t ht hW => ⟨⟨(-1), (wt_1, 1), rfl, by (try dsimp only); refine ⟨?_, by omega, by omega, by omega, by omega, by omega⟩; exact hkm1.trans ((jjF_n hr_4_0 (by rw [← hr_6_0]; omega) (by omega)).symm.trans hi_1_5), hh_13.rt (M1 := [(r0, 16, 29, .int wt_1), (r0, 16, 31, .int 1)]) [1, 0] rfl ht⟩, by rw [ht]; try exact hh_13.1.1, fun q h9 hq => by rw [ht]; try exact hh_13.1.2.1 q h9 hq⟩) hh_13.1.2.2 dX14_four_27
  exact L4 (4 - (0 : Int32).toInt : Int).toNat.succ 0 0 pt _ _ hh (by refine ⟨by omega, by omega, by omega, by omega, jjFb.z (by omega) (by omega), ?_⟩; rw [hk0]; rfl) (by omega) _ (lv_sub hl [2, 1, 0] rfl)
set_option maxHeartbeats 4000000 in
set_option maxRecDepth 20000 in
theorem uX14_unitJ (l : Launch) (dC : Nat → ClassId) (dI : Nat → Nat → Nat) (ca : Nat → ClassId) (base : Nat) (B : jF) (hB : jBok B) (hAp : jAp (dC, dI)) (hB16 : ∀ n G a H, B 16 n G a H ↔ jOb (dC, dI) 16 74 (F16 n G) a H) (hB127 : ∀ n G a H, B 127 n G a H ↔ jAr (dC, dI) (ca 1) (fun j z => True) n a H) (G0 : jT) (H0 : Heap) (r0 : Nat) (a1 : Int32) (pp : Int32) (xp : Nat) (fu : Nat → Int32) : Met l yX14_unit (jw yX14_unit cX14_unit 2 none) ({ frames := 0, cells := 0, slots := 0, locals := 0 }) (va_Pc [.ref r0, .int a1] (fun U => U.heap = H0 ∧ jX B base G0 [] H0 ∧ jG dC dI ca base U ∧ G0 r0 = some (16, 0) ∧ G0 xp = some (127, 3300) ∧ jP (dC, dI) G0 H0 [(r0, 16, 28, .int pp), (r0, 16, 27, .ref xp)] ∧ jMc (dC, dI) G0 H0 [(xp, 127, 3300, ca 1, fu)] ∧ 0 ≤ pp.toInt ∧ pp.toInt ≤ 3298 ∧ 0 ≤ a1.toInt ∧ a1.toInt ≤ 1114111)) (va_Qv (S := Int32 × (Nat → Int32)) (fun u => (65536 ≤ a1.toInt ∧ u.1.toInt = pp.toInt + 2 ∧ jSo u.2 pp.toInt = 55296 + (a1.toInt - 65536) / 1024 ∧ jSo u.2 (pp.toInt + 1) = 56320 + (a1.toInt - 65536) % 1024 ∧ jjPu fu u.2 pp.toInt) ∨ (a1.toInt < 65536 ∧ u.1.toInt = pp.toInt + 1 ∧ jSo u.2 pp.toInt = a1.toInt ∧ jjPu fu u.2 pp.toInt)) (fun u t => jRt (dC, dI) B base G0 EX14_unitJ H0 [(r0, 16, 28, .int u.1)] t.heap ∧ jMc (dC, dI) G0 t.heap [(xp, 127, 3300, ca 1, u.2)]) (jA base)) 0 0 (jA base) := by
  refine Met.ofW (cc := cX14_unit) (maxL := 2) (ret := none) (by decide) rfl ?_
  intro p e s m args below meth c s₁ Bd hml hv
  obtain ⟨rfl, hH0, hX, hG, hg_r0, hg_xp, hP0, hM0, hp0, hp1, hp2, hp3⟩ := hv
  have hK := hG.1
  have hx := Bd.exec
  have hb := Bd.bytes
  have hr := Bd.returns
  have hts := atoms_spec (ws := (jw yX14_unit cX14_unit 2 none)) Bd.pre
  have htw : ∀ w ∈ jWl, w.before _ s = true := fun w h => hts w (List.mem_cons_of_mem _ h)
  have hown : s.vm.findClass RX14 = some m.cls := findClass_of_methodNamed Bd.named
  have hlocks := Bd.notSynchronized
  obtain ⟨Q, hQ⟩ : ∃ Q, Q = MQ below (va_Qv (S := Int32 × (Nat → Int32)) (fun u => (65536 ≤ a1.toInt ∧ u.1.toInt = pp.toInt + 2 ∧ jSo u.2 pp.toInt = 55296 + (a1.toInt - 65536) / 1024 ∧ jSo u.2 (pp.toInt + 1) = 56320 + (a1.toInt - 65536) % 1024 ∧ jjPu fu u.2 pp.toInt) ∨ (a1.toInt < 65536 ∧ u.1.toInt = pp.toInt + 1 ∧ jSo u.2 pp.toInt = a1.toInt ∧ jjPu fu u.2 pp.toInt)) (fun u t => jRt (dC, dI) B base G0 EX14_unitJ H0 [(r0, 16, 28, .int u.1)] t.heap ∧ jMc (dC, dI) G0 t.heap [(xp, 127, 3300, ca 1, u.2)]) (jA base)) ([.ref r0, .int a1] : List Value).toArray s 0 0 (jA base) := ⟨_, rfl⟩
  rw [← hQ]
  have hl := lv_entry ([.ref r0, .int a1]) (n := 2) (Nat.le_of_ble_eq_true rfl)
  rw [lg_entry_eq]
  generalize (lg_sl ([.ref r0, .int a1]) ++ List.replicate (2 - (lg_sl ([.ref r0, .int a1])).length) Slot.unset).toArray = ls at hl ⊢
  have hl : lv_has ls 2 [(0, .ref r0), (1, .int a1)] := hl
  generalize hR : (headSpec (jw yX14_unit cX14_unit 2 none) ({ frames := 0, cells := 0, slots := 0, locals := 0 })).room = R
  subst hH0
  have hh : jSt (dC, dI) B base G0 G0 EX14_unitJ s.heap 0 0 [(r0, 16, 28, .int pp), (r0, 16, 27, .ref xp)] [(xp, 127, 3300, ca 1, fu)] [] s.heap [] := jSt.start hX hP0 hM0 jIs.nil
  clear hX hP0
  have hk0 : (0 : Int32).toInt = 0 := by decide
  have hk1 : (1 : Int32).toInt = 1 := by decide
  have hk2 : (2 : Int32).toInt = 2 := by decide
  have hk10 : (10 : Int32).toInt = 10 := by decide
  have hk1023 : (1023 : Int32).toInt = 1023 := by decide
  have hk55296 : (55296 : Int32).toInt = 55296 := by decide
  have hk56320 : (56320 : Int32).toInt = 56320 := by decide
  have hk65535 : (65535 : Int32).toInt = 65535 := by decide
  have hk65536 : (65536 : Int32).toInt = 65536 := by decide
  have hly_16_27 := htw (u_lay RX14 TX14 27) (jWc_wsX140 _ (u_in_lay (by decide)))
  have hly_16_28 := htw (u_lay RX14 TX14 28) (jWc_wsX140 _ (u_in_lay (by decide)))
  have hcs_333 := htw (.constant RX14 333 65535) (jWr_52 _ (List.mem_of_getElem? (i := 1) rfl))
  have hlk_65 := (htw (.fieldLink RX14 65 "ProofServerModel" "pool" "[I") (jWr_11 _ (List.mem_of_getElem? (i := 14) rfl)))
  have hlk_304 := (htw (.fieldLink RX14 304 "ProofServerModel" "pooled" "I") (jWr_50 _ (List.mem_of_getElem? (i := 8) rfl)))
  have hcs_179 := htw (.constant RX14 179 55296) (jWr_51 _ (List.mem_of_getElem? (i := 18) rfl))
  have hcs_197 := htw (.constant RX14 197 65536) (jWr_52 _ (List.mem_of_getElem? (i := 2) rfl))
  have hcs_185 := htw (.constant RX14 185 56320) (jWr_51 _ (List.mem_of_getElem? (i := 16) rfl))
  have hrg_a1 := jb_rng a1
  refine lv_iload_n hx hb dX14_unit_0 rfl (lv_at hl 1 rfl) ?_
  refine lv_ldcw hx hb hown hcs_333 dX14_unit_1 ?_
  refine lv_icmp_le (tgt := 61) hx hb dX14_unit_4 (by decide) (fun c_1 => ?_) (fun c_1 => ?_)
  · skip
    have c_1' : a1.toInt ≤ 65535 := jb_le (rfl) ((by decide)) c_1
    refine lv_aload_n hx hb dX14_unit_61 rfl (lv_at hl 0 rfl) ?_
    refine j7_read hx hb hown hK (C := RX14) (T := TX14) (N := 74) rfl hly_16_27 hlk_65 (hh.at 1 rfl) dX14_unit_62 ?_
    refine lv_aload_n hx hb dX14_unit_65 rfl (lv_at hl 0 rfl) ?_
    refine j7_read hx hb hown hK (C := RX14) (T := TX14) (N := 74) rfl hly_16_28 hlk_304 (hh.at 0 rfl) dX14_unit_66 ?_
    refine lv_iload_n hx hb dX14_unit_69 rfl (lv_at hl 1 rfl) ?_
    refine j7_iastU hx hb hK hh hB hB127 1 rfl (by decide) (by decide) rfl 0 rfl (M1 := []) [] rfl rfl rfl hg_xp (x := pp.toInt) (rfl) (by omega) (trivial) dX14_unit_70 (fun H_2 locs_2 fs_3 hv_2 ho_2 hh_2 => ?_)
    have hv_2 : jSo fs_3 (pp.toInt) = a1.toInt := by unfold jSo; rw [hv_2]; try exact rfl
    clear hh
    refine lv_aload_n hx hb dX14_unit_71 rfl (lv_at hl 0 rfl) ?_
    refine lv_dup hx hb dX14_unit_72 rfl ?_
    refine j7_read hx hb hown hK (C := RX14) (T := TX14) (N := 74) rfl hly_16_28 hlk_304 (hh_2.at 0 rfl) dX14_unit_73 ?_
    refine lv_iconst (v := 1) hx hb dX14_unit_76 (by decide) ?_
    refine lv_iadd hx hb dX14_unit_77 ?_
    refine lv_topi (fun z_4 ez_4 => ?_)
    have hz_4 : z_4.toInt = pp.toInt + 1 := by rw [ez_4]; exact jb_iadd2 (rfl) ((by decide)) (by omega)
    refine j7_put hx hb hown hK hh_2 hB hAp hB16 (C := RX14) (T := TX14) (N := 74) rfl (by decide) hg_r0 (i := 28) (by decide) hly_16_28 rfl hlk_304 rfl (ty := .int) (v := .int z_4) (by decide +kernel) rfl rfl (⟨_, rfl, by omega, by omega⟩) rfl (L1 := [(r0, 16, 27, .ref xp)]) [1] rfl rfl rfl dX14_unit_78 (fun H_5 locs_5 hh_5 => ?_)
    clear hh_2
    rw [hQ]
    exact W.vret hx hb hr (fun t ht hW => ⟨⟨(z_4, fs_3), rfl, by (try dsimp only); exact Or.inr ⟨by omega, by omega, hv_2, fun j q0 q1 => jst ho_2 j q0 (by omega) (by omega) (by omega)⟩, ⟨hh_5.rt (M1 := [(r0, 16, 28, .int z_4)]) [0] rfl ht, by rw [ht]; exact hh_5.2.2.2.2.2.2.2.1.sub [0] rfl⟩⟩, by rw [ht]; try exact hh_5.1.1, fun q h9 hq => by rw [ht]; try exact hh_5.1.2.1 q h9 hq⟩) hh_5.1.2.2 dX14_unit_81
  · skip
    have c_1' : a1.toInt > 65535 := jb_le_n (rfl) ((by decide)) c_1
    refine lv_aload_n hx hb dX14_unit_7 rfl (lv_at hl 0 rfl) ?_
    refine j7_read hx hb hown hK (C := RX14) (T := TX14) (N := 74) rfl hly_16_27 hlk_65 (hh.at 1 rfl) dX14_unit_8 ?_
    refine lv_aload_n hx hb dX14_unit_11 rfl (lv_at hl 0 rfl) ?_
    refine j7_read hx hb hown hK (C := RX14) (T := TX14) (N := 74) rfl hly_16_28 hlk_304 (hh.at 0 rfl) dX14_unit_12 ?_
    refine lv_ldc hx hb hown hcs_179 dX14_unit_15 ?_
    refine lv_iload_n hx hb dX14_unit_17 rfl (lv_at hl 1 rfl) ?_
    refine lv_ldc hx hb hown hcs_197 dX14_unit_18 ?_
    refine lv_isub hx hb dX14_unit_20 ?_
    refine lv_topi (fun z_6 ez_6 => ?_)
    have hz_6 : z_6.toInt = a1.toInt - 65536 := by rw [ez_6]; exact jb_isub2 (rfl) ((by decide)) (by omega)
    refine lv_bipush (v := 10) hx hb dX14_unit_21 (by decide) ?_
    refine lv_ishr hx hb dX14_unit_23 ?_
    refine lv_topi (fun z_7 ez_7 => ?_)
    have hz_7 : z_7.toInt = z_6.toInt / 2 ^ 10 := by rw [ez_7]; exact jb_ishr 10 (rfl) (by decide)
    have hs1 := jb_shr10 ez_7 (by omega)
    refine lv_iadd hx hb dX14_unit_24 ?_
    refine lv_topi (fun z_8 ez_8 => ?_)
    have hz_8 : z_8.toInt = 55296 + z_7.toInt := by rw [ez_8]; exact jb_iadd2 ((by decide)) (rfl) (by omega)
    refine j7_iastU hx hb hK hh hB hB127 1 rfl (by decide) (by decide) rfl 0 rfl (M1 := []) [] rfl rfl rfl hg_xp (x := pp.toInt) (rfl) (by omega) (trivial) dX14_unit_25 (fun H_9 locs_9 fs_10 hv_9 ho_9 hh_9 => ?_)
    have hv_9 : jSo fs_10 (pp.toInt) = z_8.toInt := by unfold jSo; rw [hv_9]; try exact rfl
    clear hh
    refine lv_aload_n hx hb dX14_unit_26 rfl (lv_at hl 0 rfl) ?_
    refine j7_read hx hb hown hK (C := RX14) (T := TX14) (N := 74) rfl hly_16_27 hlk_65 (hh_9.at 1 rfl) dX14_unit_27 ?_
    refine lv_aload_n hx hb dX14_unit_30 rfl (lv_at hl 0 rfl) ?_
    refine j7_read hx hb hown hK (C := RX14) (T := TX14) (N := 74) rfl hly_16_28 hlk_304 (hh_9.at 0 rfl) dX14_unit_31 ?_
    refine lv_iconst (v := 1) hx hb dX14_unit_34 (by decide) ?_
    refine lv_iadd hx hb dX14_unit_35 ?_
    refine lv_topi (fun z_11 ez_11 => ?_)
    have hz_11 : z_11.toInt = pp.toInt + 1 := by rw [ez_11]; exact jb_iadd2 (rfl) ((by decide)) (by omega)
    refine lv_ldc hx hb hown hcs_185 dX14_unit_36 ?_
    refine lv_iload_n hx hb dX14_unit_38 rfl (lv_at hl 1 rfl) ?_
    refine lv_ldc hx hb hown hcs_197 dX14_unit_39 ?_
    refine lv_isub hx hb dX14_unit_41 ?_
    refine lv_topi (fun z_12 ez_12 => ?_)
    have hz_12 : z_12.toInt = a1.toInt - 65536 := by rw [ez_12]; exact jb_isub2 (rfl) ((by decide)) (by omega)
    refine lv_sipush (v := 1023) hx hb dX14_unit_42 (by decide) ?_
    refine lv_iand hx hb dX14_unit_45 ?_
    refine lv_topi (fun z_13 ez_13 => ?_)
    have hz_13 : 0 ≤ z_13.toInt ∧ z_13.toInt ≤ 1023 := by rw [ez_13]; exact jb_and z_12 (m := 1023) (k := 10) (by decide) (by decide)
    have hs2 := jb_a1023 ez_13
    refine lv_iadd hx hb dX14_unit_46 ?_
    refine lv_topi (fun z_14 ez_14 => ?_)
    have hz_14 : z_14.toInt = 56320 + z_13.toInt := by rw [ez_14]; exact jb_iadd2 ((by decide)) (rfl) (by omega)
    refine j7_iastU hx hb hK hh_9 hB hB127 1 rfl (by decide) (by decide) rfl 0 rfl (M1 := []) [] rfl rfl rfl hg_xp (x := z_11.toInt) (rfl) (by omega) (trivial) dX14_unit_47 (fun H_15 locs_15 fs_16 hv_15 ho_15 hh_15 => ?_)
    have hv_15 : jSo fs_16 (z_11.toInt) = z_14.toInt := by unfold jSo; rw [hv_15]; try exact rfl
    rw [show z_11.toInt = (pp.toInt + 1) by omega] at hv_15 ho_15
    clear hh_9
    refine lv_aload_n hx hb dX14_unit_48 rfl (lv_at hl 0 rfl) ?_
    refine lv_dup hx hb dX14_unit_49 rfl ?_
    refine j7_read hx hb hown hK (C := RX14) (T := TX14) (N := 74) rfl hly_16_28 hlk_304 (hh_15.at 0 rfl) dX14_unit_50 ?_
    refine lv_iconst (v := 2) hx hb dX14_unit_53 (by decide) ?_
    refine lv_iadd hx hb dX14_unit_54 ?_
    refine lv_topi (fun z_17 ez_17 => ?_)
    have hz_17 : z_17.toInt = pp.toInt + 2 := by rw [ez_17]; exact jb_iadd2 (rfl) ((by decide)) (by omega)
    refine j7_put hx hb hown hK hh_15 hB hAp hB16 (C := RX14) (T := TX14) (N := 74) rfl (by decide) hg_r0 (i := 28) (by decide) hly_16_28 rfl hlk_304 rfl (ty := .int) (v := .int z_17) (by decide +kernel) rfl rfl (⟨_, rfl, by omega, by omega⟩) rfl (L1 := [(r0, 16, 27, .ref xp)]) [1] rfl rfl rfl dX14_unit_55 (fun H_18 locs_18 hh_18 => ?_)
    clear hh_15
    refine lv_goto (tgt := 81) hx hb dX14_unit_58 (by decide) ?_
    rw [hQ]
    exact W.vret hx hb hr (fun t ht hW => ⟨⟨(z_17, fs_16), rfl, by (try dsimp only); exact Or.inl ⟨by omega, by omega, (jst ho_15 _ (by omega) (by omega) (by omega) (by omega)).trans (hv_9.trans (by omega)), jSoA (hv_15.trans (by omega)) (by omega), fun j q0 q1 => (jst ho_15 j q0 (by omega) (by omega) (by omega)).trans (jst ho_9 j q0 (by omega) (by omega) (by omega))⟩, ⟨hh_18.rt (M1 := [(r0, 16, 28, .int z_17)]) [0] rfl ht, by rw [ht]; exact hh_18.2.2.2.2.2.2.2.1.sub [0] rfl⟩⟩, by rw [ht]; try exact hh_18.1.1, fun q h9 hq => by rw [ht]; try exact hh_18.1.2.1 q h9 hq⟩) hh_18.1.2.2 dX14_unit_81
set_option maxHeartbeats 4000000 in
set_option maxRecDepth 20000 in
theorem uX14_utfLengthJ (l : Launch) (dC : Nat → ClassId) (dI : Nat → Nat → Nat) (ca : Nat → ClassId) (base : Nat) (B : jF) (hB : jBok B) (hAp : jAp (dC, dI)) (hB16 : ∀ n G a H, B 16 n G a H ↔ jOb (dC, dI) 16 74 (F16 n G) a H) (hB110 : ∀ n G a H, B 110 n G a H ↔ jAr (dC, dI) (ca 1) (fun j z => 0 ≤ z.toInt ∧ z.toInt ≤ 255) n a H) (G0 : jT) (H0 : Heap) (r0 : Nat) (r1 : Nat) (a2 : Int32) (a3 : Int32) (n1 : Nat) (fb : Nat → Int32) : Met l yX14_utfLength (jw yX14_utfLength cX14_utfLength 8 (some .int)) ({ frames := 1, cells := 0, slots := 0, locals := 22 }) (va_Pc [.ref r0, .ref r1, .int a2, .int a3] (fun U => U.heap = H0 ∧ jX B base G0 [] H0 ∧ jG dC dI ca base U ∧ G0 r1 = some (110, n1) ∧ G0 r0 = some (16, 0) ∧ jP (dC, dI) G0 H0 [] ∧ jMc (dC, dI) G0 H0 [(r1, 110, n1, ca 1, fb)] ∧ 0 ≤ a2.toInt ∧ a2.toInt < a3.toInt ∧ a3.toInt ≤ n1 ∧ n1 ≤ 4000)) (va_Qi (S := Int32) (fun r u => (jUq (jB8 fb) a2.toInt a3.toInt r.toInt u.toInt ∧ (r.toInt = 0 ∨ (1 ≤ r.toInt ∧ r.toInt ≤ 4 ∧ a2.toInt + r.toInt ≤ a3.toInt ∧ (u.toInt ≤ 65535 ∨ 2 ≤ r.toInt))))) (fun u t => jRt (dC, dI) B base G0 EX14_utfLengthJ H0 [(r0, 16, 33, .int u)] t.heap) (jA base)) 0 0 (jA base) := by
  refine Met.ofW (cc := cX14_utfLength) (maxL := 8) (ret := (some .int)) (by decide) rfl ?_
  intro p e s m args below meth c s₁ Bd hml hv
  obtain ⟨rfl, hH0, hX, hG, hg_r1, hg_r0, hP0, hM0, hp0, hp1, hp2, hp3⟩ := hv
  have hK := hG.1
  have hx := Bd.exec
  have hb := Bd.bytes
  have hr := Bd.returns
  have hts := atoms_spec (ws := (jw yX14_utfLength cX14_utfLength 8 (some .int))) Bd.pre
  have htw : ∀ w ∈ jWl, w.before _ s = true := fun w h => hts w (List.mem_cons_of_mem _ h)
  have hown : s.vm.findClass RX14 = some m.cls := findClass_of_methodNamed Bd.named
  have hlocks := Bd.notSynchronized
  obtain ⟨Q, hQ⟩ : ∃ Q, Q = MQ below (va_Qi (S := Int32) (fun r u => (jUq (jB8 fb) a2.toInt a3.toInt r.toInt u.toInt ∧ (r.toInt = 0 ∨ (1 ≤ r.toInt ∧ r.toInt ≤ 4 ∧ a2.toInt + r.toInt ≤ a3.toInt ∧ (u.toInt ≤ 65535 ∨ 2 ≤ r.toInt))))) (fun u t => jRt (dC, dI) B base G0 EX14_utfLengthJ H0 [(r0, 16, 33, .int u)] t.heap) (jA base)) ([.ref r0, .ref r1, .int a2, .int a3] : List Value).toArray s 0 0 (jA base) := ⟨_, rfl⟩
  rw [← hQ]
  have hl := lv_entry ([.ref r0, .ref r1, .int a2, .int a3]) (n := 8) (Nat.le_of_ble_eq_true rfl)
  rw [lg_entry_eq]
  generalize (lg_sl ([.ref r0, .ref r1, .int a2, .int a3]) ++ List.replicate (8 - (lg_sl ([.ref r0, .ref r1, .int a2, .int a3])).length) Slot.unset).toArray = ls at hl ⊢
  have hl : lv_has ls 8 [(0, .ref r0), (1, .ref r1), (2, .int a2), (3, .int a3)] := hl
  generalize hR : (headSpec (jw yX14_utfLength cX14_utfLength 8 (some .int)) ({ frames := 1, cells := 0, slots := 0, locals := 22 })).room = R
  subst hH0
  have hh : jSt (dC, dI) B base G0 G0 EX14_utfLengthJ s.heap 0 0 [] [(r1, 110, n1, ca 1, fb)] [] s.heap [] := jSt.start hX hP0 hM0 jIs.nil
  clear hX hP0
  have hk0 : (0 : Int32).toInt = 0 := by decide
  have hk1 : (1 : Int32).toInt = 1 := by decide
  have hk2 : (2 : Int32).toInt = 2 := by decide
  have hk3 : (3 : Int32).toInt = 3 := by decide
  have hk4 : (4 : Int32).toInt = 4 := by decide
  have hk6 : (6 : Int32).toInt = 6 := by decide
  have hk7 : (7 : Int32).toInt = 7 := by decide
  have hk15 : (15 : Int32).toInt = 15 := by decide
  have hk31 : (31 : Int32).toInt = 31 := by decide
  have hk63 : (63 : Int32).toInt = 63 := by decide
  have hk128 : (128 : Int32).toInt = 128 := by decide
  have hk191 : (191 : Int32).toInt = 191 := by decide
  have hk194 : (194 : Int32).toInt = 194 := by decide
  have hk223 : (223 : Int32).toInt = 223 := by decide
  have hk224 : (224 : Int32).toInt = 224 := by decide
  have hk239 : (239 : Int32).toInt = 239 := by decide
  have hk240 : (240 : Int32).toInt = 240 := by decide
  have hk244 : (244 : Int32).toInt = 244 := by decide
  have hk2048 : (2048 : Int32).toInt = 2048 := by decide
  have hk55296 : (55296 : Int32).toInt = 55296 := by decide
  have hk57343 : (57343 : Int32).toInt = 57343 := by decide
  have hk65536 : (65536 : Int32).toInt = 65536 := by decide
  have hk1114111 : (1114111 : Int32).toInt = 1114111 := by decide
  have hly_16_33 := htw (u_lay RX14 TX14 33) (jWc_wsX140 _ (u_in_lay (by decide)))
  have hlk_357 := (htw (.fieldLink RX14 357 "ProofServerModel" "utfChar" "I") (jWr_51 _ (List.mem_of_getElem? (i := 11) rfl)))
  have hcs_197 := htw (.constant RX14 197 65536) (jWr_52 _ (List.mem_of_getElem? (i := 2) rfl))
  have hcs_179 := htw (.constant RX14 179 55296) (jWr_51 _ (List.mem_of_getElem? (i := 18) rfl))
  have hcs_186 := htw (.constant RX14 186 57343) (jWr_51 _ (List.mem_of_getElem? (i := 17) rfl))
  have hcs_360 := htw (.constant RX14 360 1114111) (jWr_52 _ (List.mem_of_getElem? (i := 18) rfl))
  have hrg_a2 := jb_rng a2
  have hrg_a3 := jb_rng a3
  refine lv_aload_n hx hb dX14_utfLength_0 rfl (lv_at hl 1 rfl) ?_
  refine lv_iload_n hx hb dX14_utfLength_1 rfl (lv_at hl 2 rfl) ?_
  refine j7_ialdM hx hb hK hh hB110 1 rfl (by decide) hg_r1 (x := a2.toInt) (rfl) (by omega) (j := 0) rfl dX14_utfLength_2 (fun z_1 ez_1 (hz_1 : 0 ≤ z_1.toInt ∧ z_1.toInt ≤ 255) => ?_)
  have hqz_1 : z_1.toInt = jSo fb (a2.toInt) := by unfold jSo; rw [ez_1]
  have hb4 : z_1.toInt = jB8 fb a2.toInt := by unfold jB8; rw [← hqz_1]; omega
  refine lv_istore (lv' := [(4, .int z_1), (0, .ref r0), (1, .ref r1), (2, .int a2), (3, .int a3)]) hx hb dX14_utfLength_3 hl (by decide) rfl (fun ls hl => ?_)
  refine lv_aload_n hx hb dX14_utfLength_5 rfl (lv_at hl 1 rfl) ?_
  refine lv_iload hx hb dX14_utfLength_6 (lv_at hl 0 rfl) ?_
  refine j7_put hx hb hown hK hh hB hAp hB16 (C := RX14) (T := TX14) (N := 74) rfl (by decide) hg_r0 (i := 33) (by decide) hly_16_33 rfl hlk_357 rfl (ty := .int) (v := .int z_1) (by decide +kernel) rfl rfl (⟨_, rfl⟩) rfl (L1 := []) [] rfl rfl rfl dX14_utfLength_8 (fun H_2 locs_2 hh_2 => ?_)
  clear hh
  refine lv_iload hx hb dX14_utfLength_11 (lv_at hl 0 rfl) ?_
  refine lv_sipush (v := 128) hx hb dX14_utfLength_13 (by decide) ?_
  refine lv_icmp_ge (tgt := 21) hx hb dX14_utfLength_16 (by decide) (fun c_3 => ?_) (fun c_3 => ?_)
  · skip
    have c_3' : z_1.toInt ≥ 128 := jb_ge (rfl) ((by decide)) c_3
    refine lv_iload hx hb dX14_utfLength_21 (lv_at hl 0 rfl) ?_
    refine lv_sipush (v := 194) hx hb dX14_utfLength_23 (by decide) ?_
    refine lv_sipush (v := 223) hx hb dX14_utfLength_26 (by decide) ?_
    refine va_calli (A0 := jA base) (H0 := s.heap) (va_runS (As := [.int z_1, .int 194, .int 223]) (rest := []) ⟨hx, hb, hml, hown, hts⟩ (uX14_in l dC dI ca base B hB hAp G0 H_2 z_1 194 223) (va_cwS 3 hts (jgS (jWr_48 _ (List.mem_of_getElem? (i := 10) rfl)) (jWr_48 _ (List.mem_of_getElem? (i := 11) rfl)) (jWr_1 _ (List.mem_of_getElem? (i := 5) rfl)) (jWr_48 _ (List.mem_of_getElem? (i := 12) rfl))) rfl rfl rfl (by decide +kernel) ⟨by rw [← hR]; exact Nat.le_of_ble_eq_true rfl, by rw [← hR]; exact Nat.le_of_ble_eq_true rfl⟩) ⟨fun a U g mk q => by obtain ⟨q0, q1, q2, qK, q10, q11⟩ := q; exact ⟨q0, q1, q2, jG.calling g mk a qK, q10, q11⟩, fun U hU hW => ⟨rfl, hU, hh_2.2.1, hG.step hW hU hh_2.1, jP.nil, trivial⟩⟩ rfl rfl hl.1 rfl (lv_room (Nat.le_of_ble_eq_true rfl)) dX14_utfLength_29 ⟨Nat.zero_le _, Nat.zero_le _⟩) hh_2.1 (fun q _ h => h) (fun q h => h) (fun r_5 u_4 t_4 H_4 locs_4 ht_4 hvm_4 hr_5 hb_4 hz_4 hk_4 hS_4 => ?_)
    rw [ht_4] at hb_4
    obtain ⟨hb_41, hb_42, hb_43, hb_44, hb_45⟩ := hb_4
    have hh_4 : jSt (dC, dI) B base G0 G0 EX14_utfLengthJ s.heap 0 0 [(r0, 16, 33, .int z_1)] [(r1, 110, n1, ca 1, fb)] [] H_4 locs_4 := ((hh_2.call hb_41 hb_42 hb_43 hb_44 hS_4 rfl (L1 := [(r0, 16, 33, .int z_1)]) [0] rfl rfl (M1 := [(r1, 110, n1, ca 1, fb)]) [0] rfl rfl (I1 := []) [] rfl rfl).more hb_45)
    clear hh_2 ht_4 hvm_4 hz_4 hk_4 hS_4 hb_41 hb_42 hb_43 hb_44 hb_45
    obtain ⟨hr_5b, hr_5p⟩ := hr_5
    obtain ⟨hr_5p_0, hr_5p_1, hr_5p_2⟩ := hr_5p
    have hr_5' := jb_01 hr_5b
    have C76 : ∀ (w0_6 : Int32) (H_6 : Heap) (locs_6 : List Loc), jSt (dC, dI) B base G0 G0 EX14_utfLengthJ s.heap 0 0 [(r0, 16, 33, .int z_1)] [(r1, 110, n1, ca 1, fb)] [] H_6 locs_6 → (((194 ≤ z_1.toInt ∧ z_1.toInt ≤ 223 ∧ w0_6.toInt = 2) ∨ (224 ≤ z_1.toInt ∧ z_1.toInt ≤ 239 ∧ w0_6.toInt = 3) ∨ (240 ≤ z_1.toInt ∧ z_1.toInt ≤ 244 ∧ w0_6.toInt = 4) ∨ ((z_1.toInt < 194 ∨ 244 < z_1.toInt) ∧ w0_6.toInt = 0))) → ∀ ls : Array Slot, lv_has ls 8 [(0, .ref r0), (1, .ref r1), (2, .int a2), (3, .int a3), (4, .int z_1)] → W p l e R s m ([.ref r0, .ref r1, .int a2, .int a3] : List Value).toArray below meth c H_6 locs_6 0 0 Q (F0 m 76 ls [.int w0_6]) := by
      intro w0_6 H_6 locs_6 hh_6  hi_6 ls hl
      refine lv_istore (lv' := [(5, .int w0_6), (0, .ref r0), (1, .ref r1), (2, .int a2), (3, .int a3), (4, .int z_1)]) hx hb dX14_utfLength_76 hl (by decide) rfl (fun ls hl => ?_)
      refine lv_iload hx hb dX14_utfLength_78 (lv_at hl 0 rfl) ?_
      refine lv_if_eq (tgt := 91) hx hb dX14_utfLength_80 (by decide) (fun c_7 => ?_) (fun c_7 => ?_)
      · skip
        have c_7' : w0_6.toInt = 0 := jb_eq (rfl) ((by decide)) c_7
        refine lv_iconst (v := 0) hx hb dX14_utfLength_91 (by decide) ?_
        rw [hQ]
        exact W.iret (v := 0) hx hb hr (fun t ht hW => ⟨⟨0, z_1, rfl, by (try dsimp only); refine ⟨?_, by omega⟩; exact jUq.no rfl (jUc_m hb4 (by omega) rfl (by first | exact Or.inl (jUm.none (by omega)) | (have h9 := jUm.ref (x := z_1.toInt) (n := w0_6.toInt) (by omega); omega)) rfl), hh_6.rt (M1 := [(r0, 16, 33, .int z_1)]) [0] rfl ht⟩, by rw [ht]; try exact hh_6.1.1, fun q h9 hq => by rw [ht]; try exact hh_6.1.2.1 q h9 hq⟩) hh_6.1.2.2 dX14_utfLength_92
      · skip
        have c_7' : w0_6.toInt ≠ 0 := jb_eq_n (rfl) ((by decide)) c_7
        refine lv_iload_n hx hb dX14_utfLength_83 rfl (lv_at hl 3 rfl) ?_
        refine lv_iload hx hb dX14_utfLength_84 (lv_at hl 0 rfl) ?_
        refine lv_iadd hx hb dX14_utfLength_86 ?_
        refine lv_topi (fun z_8 ez_8 => ?_)
        have hz_8 : z_8.toInt = a2.toInt + w0_6.toInt := by rw [ez_8]; exact jb_iadd2 (rfl) (rfl) (by omega)
        refine lv_iload_n hx hb dX14_utfLength_87 rfl (lv_at hl 4 rfl) ?_
        refine lv_icmp_le (tgt := 93) hx hb dX14_utfLength_88 (by decide) (fun c_9 => ?_) (fun c_9 => ?_)
        · skip
          have c_9' : z_8.toInt ≤ a3.toInt := jb_le (rfl) (rfl) c_9
          have hm5 := jUm.ref (x := z_1.toInt) (n := w0_6.toInt) (by omega)
          refine lv_iload hx hb dX14_utfLength_93 (lv_at hl 0 rfl) ?_
          refine lv_iconst (v := 2) hx hb dX14_utfLength_95 (by decide) ?_
          have C126 : ∀ (w0_10 : Int32) (H_10 : Heap) (locs_10 : List Loc), jSt (dC, dI) B base G0 G0 EX14_utfLengthJ s.heap 0 0 [(r0, 16, 33, .int z_1)] [(r1, 110, n1, ca 1, fb)] [] H_10 locs_10 → (0 ≤ w0_6.toInt ∧ w0_10.toInt = jU0 z_1.toInt (w0_6.toInt - 1)) → ∀ ls : Array Slot, lv_has ls 8 [(0, .ref r0), (1, .ref r1), (2, .int a2), (3, .int a3), (4, .int z_1), (5, .int w0_6)] → W p l e R s m ([.ref r0, .ref r1, .int a2, .int a3] : List Value).toArray below meth c H_10 locs_10 0 0 Q (F0 m 126 ls [.int w0_10]) := by
            intro w0_10 H_10 locs_10 hh_10  hi_10 ls hl
            obtain ⟨hi_10_0, hi_10_1⟩ := hi_10
            refine lv_istore (lv' := [(6, .int w0_10), (0, .ref r0), (1, .ref r1), (2, .int a2), (3, .int a3), (4, .int z_1), (5, .int w0_6)]) hx hb dX14_utfLength_126 hl (by decide) rfl (fun ls hl => ?_)
            refine lv_iconst (v := 1) hx hb dX14_utfLength_128 (by decide) ?_
            refine lv_istore (lv' := [(7, .int 1), (6, .int w0_10), (0, .ref r0), (1, .ref r1), (2, .int a2), (3, .int a3), (4, .int z_1), (5, .int w0_6)]) hx hb dX14_utfLength_129 hl (by decide) rfl (fun ls hl => ?_)
            have L131 : ∀ (N : Nat) (v6_11 : Int32) (v7_11 : Int32) (H_11 : Heap) (locs_11 : List Loc), jSt (dC, dI) B base G0 G0 EX14_utfLengthJ s.heap 0 0 [(r0, 16, 33, .int z_1)] [(r1, 110, n1, ca 1, fb)] [] H_11 locs_11 → (1 ≤ v7_11.toInt ∧ v7_11.toInt ≤ w0_6.toInt ∧ jUb w0_6.toInt v7_11.toInt v6_11.toInt ∧ jUr (jB8 fb) (w0_6.toInt - v7_11.toInt).toNat (a2.toInt + v7_11.toInt) v6_11.toInt = jUr (jB8 fb) (w0_6.toInt - 1).toNat (a2.toInt + 1) (jU0 z_1.toInt (w0_6.toInt - 1))) → (w0_6.toInt - v7_11.toInt : Int) < N → ∀ ls : Array Slot, lv_has ls 8 [(0, .ref r0), (1, .ref r1), (2, .int a2), (3, .int a3), (4, .int z_1), (5, .int w0_6), (6, .int v6_11), (7, .int v7_11)] → W p l e R s m ([.ref r0, .ref r1, .int a2, .int a3] : List Value).toArray below meth c H_11 locs_11 0 0 Q (F0 m 131 ls []) := by
              intro N
              induction N with
              | zero => intro v6_11 v7_11 H_11 locs_11 hh_11  hi_11 hm; exact absurd hm (by omega)
              | succ N L131 =>
                intro v6_11 v7_11 H_11 locs_11 hh_11  hi_11 hm_11 ls hl
                obtain ⟨hi_11_0, hi_11_1, hi_11_2, hi_11_3⟩ := hi_11
                refine lv_iload hx hb dX14_utfLength_131 (lv_at hl 7 rfl) ?_
                refine lv_iload hx hb dX14_utfLength_133 (lv_at hl 5 rfl) ?_
                refine lv_icmp_ge (tgt := 181) hx hb dX14_utfLength_135 (by decide) (fun c_12 => ?_) (fun c_12 => ?_)
                · skip
                  have c_12' : v7_11.toInt ≥ w0_6.toInt := jb_ge (rfl) (rfl) c_12
                  have hbe := hi_11_2.end (by omega)
                  refine lv_iload hx hb dX14_utfLength_181 (lv_at hl 5 rfl) ?_
                  refine lv_iconst (v := 3) hx hb dX14_utfLength_183 (by decide) ?_
                  refine lv_icmp_ne (tgt := 195) hx hb dX14_utfLength_184 (by decide) (fun c_13 => ?_) (fun c_13 => ?_)
                  · skip
                    have c_13' : w0_6.toInt ≠ 3 := jb_ne (rfl) ((by decide)) c_13
                    refine lv_iload hx hb dX14_utfLength_195 (lv_at hl 5 rfl) ?_
                    refine lv_iconst (v := 4) hx hb dX14_utfLength_197 (by decide) ?_
                    refine lv_icmp_ne (tgt := 208) hx hb dX14_utfLength_198 (by decide) (fun c_14 => ?_) (fun c_14 => ?_)
                    · skip
                      have c_14' : w0_6.toInt ≠ 4 := jb_ne (rfl) ((by decide)) c_14
                      refine lv_iload hx hb dX14_utfLength_208 (lv_at hl 6 rfl) ?_
                      refine lv_ldc hx hb hown hcs_179 dX14_utfLength_210 ?_
                      refine lv_ldc hx hb hown hcs_186 dX14_utfLength_212 ?_
                      refine va_calli (A0 := jA base) (H0 := s.heap) (va_runS (As := [.int v6_11, .int 55296, .int 57343]) (rest := []) ⟨hx, hb, hml, hown, hts⟩ (uX14_in l dC dI ca base B hB hAp G0 H_11 v6_11 55296 57343) (va_cwS 3 hts (jgS (jWr_48 _ (List.mem_of_getElem? (i := 10) rfl)) (jWr_48 _ (List.mem_of_getElem? (i := 11) rfl)) (jWr_1 _ (List.mem_of_getElem? (i := 5) rfl)) (jWr_48 _ (List.mem_of_getElem? (i := 12) rfl))) rfl rfl rfl (by decide +kernel) ⟨by rw [← hR]; exact Nat.le_of_ble_eq_true rfl, by rw [← hR]; exact Nat.le_of_ble_eq_true rfl⟩) ⟨fun a U g mk q => by obtain ⟨q0, q1, q2, qK, q10, q11⟩ := q; exact ⟨q0, q1, q2, jG.calling g mk a qK, q10, q11⟩, fun U hU hW => ⟨rfl, hU, hh_11.2.1, hG.step hW hU hh_11.1, jP.nil, trivial⟩⟩ rfl rfl hl.1 rfl (lv_room (Nat.le_of_ble_eq_true rfl)) dX14_utfLength_214 ⟨Nat.zero_le _, Nat.zero_le _⟩) hh_11.1 (fun q _ h => h) (fun q h => h) (fun r_16 u_15 t_15 H_15 locs_15 ht_15 hvm_15 hr_16 hb_15 hz_15 hk_15 hS_15 => ?_)
                      rw [ht_15] at hb_15
                      obtain ⟨hb_151, hb_152, hb_153, hb_154, hb_155⟩ := hb_15
                      have hh_15 : jSt (dC, dI) B base G0 G0 EX14_utfLengthJ s.heap 0 0 [(r0, 16, 33, .int z_1)] [(r1, 110, n1, ca 1, fb)] [] H_15 locs_15 := ((hh_11.call hb_151 hb_152 hb_153 hb_154 hS_15 rfl (L1 := [(r0, 16, 33, .int z_1)]) [0] rfl rfl (M1 := [(r1, 110, n1, ca 1, fb)]) [0] rfl rfl (I1 := []) [] rfl rfl).more hb_155)
                      clear hh_11 ht_15 hvm_15 hz_15 hk_15 hS_15 hb_151 hb_152 hb_153 hb_154 hb_155
                      obtain ⟨hr_16b, hr_16p⟩ := hr_16
                      obtain ⟨hr_16p_0, hr_16p_1, hr_16p_2⟩ := hr_16p
                      have hr_16' := jb_01 hr_16b
                      have hi5 := jIn.or v6_11.toInt (55296 : Int32).toInt (57343 : Int32).toInt
                      refine lv_if_ne (tgt := 228) hx hb dX14_utfLength_217 (by decide) (fun c_17 => ?_) (fun c_17 => ?_)
                      · skip
                        have c_17' : r_16.toInt ≠ 0 := jb_ne (rfl) ((by decide)) c_17
                        refine lv_iconst (v := 0) hx hb dX14_utfLength_228 (by decide) ?_
                        rw [hQ]
                        exact W.iret (v := 0) hx hb hr (fun t ht hW => ⟨⟨0, z_1, rfl, by (try dsimp only); refine ⟨?_, by omega⟩; exact jUq.no rfl (jUc_k hb4 (by omega) hm5 (by omega) (by omega) (hi_11_3.symm.trans (jUr_z (by omega))) (jUk_x (by omega) rfl)), hh_15.rt (M1 := [(r0, 16, 33, .int z_1)]) [0] rfl ht⟩, by rw [ht]; try exact hh_15.1.1, fun q h9 hq => by rw [ht]; try exact hh_15.1.2.1 q h9 hq⟩) hh_15.1.2.2 dX14_utfLength_229
                      · skip
                        have c_17' : r_16.toInt = 0 := jb_ne_n (rfl) ((by decide)) c_17
                        refine lv_iload hx hb dX14_utfLength_220 (lv_at hl 6 rfl) ?_
                        refine lv_ldcw hx hb hown hcs_360 dX14_utfLength_222 ?_
                        refine lv_icmp_le (tgt := 230) hx hb dX14_utfLength_225 (by decide) (fun c_18 => ?_) (fun c_18 => ?_)
                        · skip
                          have c_18' : v6_11.toInt ≤ 1114111 := jb_le (rfl) ((by decide)) c_18
                          refine lv_aload_n hx hb dX14_utfLength_230 rfl (lv_at hl 0 rfl) ?_
                          refine lv_iload hx hb dX14_utfLength_231 (lv_at hl 6 rfl) ?_
                          refine j7_put hx hb hown hK hh_15 hB hAp hB16 (C := RX14) (T := TX14) (N := 74) rfl (by decide) hg_r0 (i := 33) (by decide) hly_16_33 rfl hlk_357 rfl (ty := .int) (v := .int v6_11) (by decide +kernel) rfl rfl (⟨_, rfl⟩) rfl (L1 := []) [] rfl rfl rfl dX14_utfLength_233 (fun H_19 locs_19 hh_19 => ?_)
                          clear hh_15
                          refine lv_iload hx hb dX14_utfLength_236 (lv_at hl 5 rfl) ?_
                          rw [hQ]
                          exact W.iret (v := w0_6) hx hb hr (fun t ht hW => ⟨⟨w0_6, v6_11, rfl, by (try dsimp only); refine ⟨?_, by omega⟩; exact jUq.yes (by omega) (by omega) (by omega) (by omega) (jUc_k hb4 (by omega) hm5 (by omega) (by omega) (hi_11_3.symm.trans (jUr_z (by omega))) (jUk_v (by omega) (by omega) (by omega) (by omega) (by omega) rfl)) (by omega), hh_19.rt (M1 := [(r0, 16, 33, .int v6_11)]) [0] rfl ht⟩, by rw [ht]; try exact hh_19.1.1, fun q h9 hq => by rw [ht]; try exact hh_19.1.2.1 q h9 hq⟩) hh_19.1.2.2 dX14_utfLength_238
                        · skip
                          have c_18' : v6_11.toInt > 1114111 := jb_le_n (rfl) ((by decide)) c_18
                          refine lv_iconst (v := 0) hx hb dX14_utfLength_228 (by decide) ?_
                          rw [hQ]
                          exact W.iret (v := 0) hx hb hr (fun t ht hW => ⟨⟨0, z_1, rfl, by (try dsimp only); refine ⟨?_, by omega⟩; exact jUq.no rfl (jUc_k hb4 (by omega) hm5 (by omega) (by omega) (hi_11_3.symm.trans (jUr_z (by omega))) (jUk_x (by omega) rfl)), hh_15.rt (M1 := [(r0, 16, 33, .int z_1)]) [0] rfl ht⟩, by rw [ht]; try exact hh_15.1.1, fun q h9 hq => by rw [ht]; try exact hh_15.1.2.1 q h9 hq⟩) hh_15.1.2.2 dX14_utfLength_229
                    · skip
                      have c_14' : w0_6.toInt = 4 := jb_ne_n (rfl) ((by decide)) c_14
                      refine lv_iload hx hb dX14_utfLength_201 (lv_at hl 6 rfl) ?_
                      refine lv_ldc hx hb hown hcs_197 dX14_utfLength_203 ?_
                      refine lv_icmp_lt (tgt := 228) hx hb dX14_utfLength_205 (by decide) (fun c_20 => ?_) (fun c_20 => ?_)
                      · skip
                        have c_20' : v6_11.toInt < 65536 := jb_lt (rfl) ((by decide)) c_20
                        refine lv_iconst (v := 0) hx hb dX14_utfLength_228 (by decide) ?_
                        rw [hQ]
                        exact W.iret (v := 0) hx hb hr (fun t ht hW => ⟨⟨0, z_1, rfl, by (try dsimp only); refine ⟨?_, by omega⟩; exact jUq.no rfl (jUc_k hb4 (by omega) hm5 (by omega) (by omega) (hi_11_3.symm.trans (jUr_z (by omega))) (jUk_x (by omega) rfl)), hh_11.rt (M1 := [(r0, 16, 33, .int z_1)]) [0] rfl ht⟩, by rw [ht]; try exact hh_11.1.1, fun q h9 hq => by rw [ht]; try exact hh_11.1.2.1 q h9 hq⟩) hh_11.1.2.2 dX14_utfLength_229
                      · skip
                        have c_20' : v6_11.toInt ≥ 65536 := jb_lt_n (rfl) ((by decide)) c_20
                        refine lv_iload hx hb dX14_utfLength_208 (lv_at hl 6 rfl) ?_
                        refine lv_ldc hx hb hown hcs_179 dX14_utfLength_210 ?_
                        refine lv_ldc hx hb hown hcs_186 dX14_utfLength_212 ?_
                        refine va_calli (A0 := jA base) (H0 := s.heap) (va_runS (As := [.int v6_11, .int 55296, .int 57343]) (rest := []) ⟨hx, hb, hml, hown, hts⟩ (uX14_in l dC dI ca base B hB hAp G0 H_11 v6_11 55296 57343) (va_cwS 3 hts (jgS (jWr_48 _ (List.mem_of_getElem? (i := 10) rfl)) (jWr_48 _ (List.mem_of_getElem? (i := 11) rfl)) (jWr_1 _ (List.mem_of_getElem? (i := 5) rfl)) (jWr_48 _ (List.mem_of_getElem? (i := 12) rfl))) rfl rfl rfl (by decide +kernel) ⟨by rw [← hR]; exact Nat.le_of_ble_eq_true rfl, by rw [← hR]; exact Nat.le_of_ble_eq_true rfl⟩) ⟨fun a U g mk q => by obtain ⟨q0, q1, q2, qK, q10, q11⟩ := q; exact ⟨q0, q1, q2, jG.calling g mk a qK, q10, q11⟩, fun U hU hW => ⟨rfl, hU, hh_11.2.1, hG.step hW hU hh_11.1, jP.nil, trivial⟩⟩ rfl rfl hl.1 rfl (lv_room (Nat.le_of_ble_eq_true rfl)) dX14_utfLength_214 ⟨Nat.zero_le _, Nat.zero_le _⟩) hh_11.1 (fun q _ h => h) (fun q h => h) (fun r_22 u_21 t_21 H_21 locs_21 ht_21 hvm_21 hr_22 hb_21 hz_21 hk_21 hS_21 => ?_)
                        rw [ht_21] at hb_21
                        obtain ⟨hb_211, hb_212, hb_213, hb_214, hb_215⟩ := hb_21
                        have hh_21 : jSt (dC, dI) B base G0 G0 EX14_utfLengthJ s.heap 0 0 [(r0, 16, 33, .int z_1)] [(r1, 110, n1, ca 1, fb)] [] H_21 locs_21 := ((hh_11.call hb_211 hb_212 hb_213 hb_214 hS_21 rfl (L1 := [(r0, 16, 33, .int z_1)]) [0] rfl rfl (M1 := [(r1, 110, n1, ca 1, fb)]) [0] rfl rfl (I1 := []) [] rfl rfl).more hb_215)
                        clear hh_11 ht_21 hvm_21 hz_21 hk_21 hS_21 hb_211 hb_212 hb_213 hb_214 hb_215
                        obtain ⟨hr_22b, hr_22p⟩ := hr_22
                        obtain ⟨hr_22p_0, hr_22p_1, hr_22p_2⟩ := hr_22p
                        have hr_22' := jb_01 hr_22b
                        have hi5 := jIn.or v6_11.toInt (55296 : Int32).toInt (57343 : Int32).toInt
                        refine lv_if_ne (tgt := 228) hx hb dX14_utfLength_217 (by decide) (fun c_23 => ?_) (fun c_23 => ?_)
                        · skip
                          have c_23' : r_22.toInt ≠ 0 := jb_ne (rfl) ((by decide)) c_23
                          refine lv_iconst (v := 0) hx hb dX14_utfLength_228 (by decide) ?_
                          rw [hQ]
                          exact W.iret (v := 0) hx hb hr (fun t ht hW => ⟨⟨0, z_1, rfl, by (try dsimp only); refine ⟨?_, by omega⟩; exact jUq.no rfl (jUc_k hb4 (by omega) hm5 (by omega) (by omega) (hi_11_3.symm.trans (jUr_z (by omega))) (jUk_x (by omega) rfl)), hh_21.rt (M1 := [(r0, 16, 33, .int z_1)]) [0] rfl ht⟩, by rw [ht]; try exact hh_21.1.1, fun q h9 hq => by rw [ht]; try exact hh_21.1.2.1 q h9 hq⟩) hh_21.1.2.2 dX14_utfLength_229
                        · skip
                          have c_23' : r_22.toInt = 0 := jb_ne_n (rfl) ((by decide)) c_23
                          refine lv_iload hx hb dX14_utfLength_220 (lv_at hl 6 rfl) ?_
                          refine lv_ldcw hx hb hown hcs_360 dX14_utfLength_222 ?_
                          refine lv_icmp_le (tgt := 230) hx hb dX14_utfLength_225 (by decide) (fun c_24 => ?_) (fun c_24 => ?_)
                          · skip
                            have c_24' : v6_11.toInt ≤ 1114111 := jb_le (rfl) ((by decide)) c_24
                            refine lv_aload_n hx hb dX14_utfLength_230 rfl (lv_at hl 0 rfl) ?_
                            refine lv_iload hx hb dX14_utfLength_231 (lv_at hl 6 rfl) ?_
                            refine j7_put hx hb hown hK hh_21 hB hAp hB16 (C := RX14) (T := TX14) (N := 74) rfl (by decide) hg_r0 (i := 33) (by decide) hly_16_33 rfl hlk_357 rfl (ty := .int) (v := .int v6_11) (by decide +kernel) rfl rfl (⟨_, rfl⟩) rfl (L1 := []) [] rfl rfl rfl dX14_utfLength_233 (fun H_25 locs_25 hh_25 => ?_)
                            clear hh_21
                            refine lv_iload hx hb dX14_utfLength_236 (lv_at hl 5 rfl) ?_
                            rw [hQ]
                            exact W.iret (v := w0_6) hx hb hr (fun t ht hW => ⟨⟨w0_6, v6_11, rfl, by (try dsimp only); refine ⟨?_, by omega⟩; exact jUq.yes (by omega) (by omega) (by omega) (by omega) (jUc_k hb4 (by omega) hm5 (by omega) (by omega) (hi_11_3.symm.trans (jUr_z (by omega))) (jUk_v (by omega) (by omega) (by omega) (by omega) (by omega) rfl)) (by omega), hh_25.rt (M1 := [(r0, 16, 33, .int v6_11)]) [0] rfl ht⟩, by rw [ht]; try exact hh_25.1.1, fun q h9 hq => by rw [ht]; try exact hh_25.1.2.1 q h9 hq⟩) hh_25.1.2.2 dX14_utfLength_238
                          · skip
                            have c_24' : v6_11.toInt > 1114111 := jb_le_n (rfl) ((by decide)) c_24
                            refine lv_iconst (v := 0) hx hb dX14_utfLength_228 (by decide) ?_
                            rw [hQ]
                            exact W.iret (v := 0) hx hb hr (fun t ht hW => ⟨⟨0, z_1, rfl, by (try dsimp only); refine ⟨?_, by omega⟩; exact jUq.no rfl (jUc_k hb4 (by omega) hm5 (by omega) (by omega) (hi_11_3.symm.trans (jUr_z (by omega))) (jUk_x (by omega) rfl)), hh_21.rt (M1 := [(r0, 16, 33, .int z_1)]) [0] rfl ht⟩, by rw [ht]; try exact hh_21.1.1, fun q h9 hq => by rw [ht]; try exact hh_21.1.2.1 q h9 hq⟩) hh_21.1.2.2 dX14_utfLength_229
                  · skip
                    have c_13' : w0_6.toInt = 3 := jb_ne_n (rfl) ((by decide)) c_13
                    refine lv_iload hx hb dX14_utfLength_187 (lv_at hl 6 rfl) ?_
                    refine lv_sipush (v := 2048) hx hb dX14_utfLength_189 (by decide) ?_
                    refine lv_icmp_lt (tgt := 228) hx hb dX14_utfLength_192 (by decide) (fun c_26 => ?_) (fun c_26 => ?_)
                    · skip
                      have c_26' : v6_11.toInt < 2048 := jb_lt (rfl) ((by decide)) c_26
                      refine lv_iconst (v := 0) hx hb dX14_utfLength_228 (by decide) ?_
                      rw [hQ]
                      exact W.iret (v := 0) hx hb hr (fun t ht hW => ⟨⟨0, z_1, rfl, by (try dsimp only); refine ⟨?_, by omega⟩; exact jUq.no rfl (jUc_k hb4 (by omega) hm5 (by omega) (by omega) (hi_11_3.symm.trans (jUr_z (by omega))) (jUk_x (by omega) rfl)), hh_11.rt (M1 := [(r0, 16, 33, .int z_1)]) [0] rfl ht⟩, by rw [ht]; try exact hh_11.1.1, fun q h9 hq => by rw [ht]; try exact hh_11.1.2.1 q h9 hq⟩) hh_11.1.2.2 dX14_utfLength_229
                    · skip
                      have c_26' : v6_11.toInt ≥ 2048 := jb_lt_n (rfl) ((by decide)) c_26
                      refine lv_iload hx hb dX14_utfLength_195 (lv_at hl 5 rfl) ?_
                      refine lv_iconst (v := 4) hx hb dX14_utfLength_197 (by decide) ?_
                      refine lv_icmp_ne (tgt := 208) hx hb dX14_utfLength_198 (by decide) (fun c_27 => ?_) (fun c_27 => ?_)
                      · skip
                        have c_27' : w0_6.toInt ≠ 4 := jb_ne (rfl) ((by decide)) c_27
                        refine lv_iload hx hb dX14_utfLength_208 (lv_at hl 6 rfl) ?_
                        refine lv_ldc hx hb hown hcs_179 dX14_utfLength_210 ?_
                        refine lv_ldc hx hb hown hcs_186 dX14_utfLength_212 ?_
                        refine va_calli (A0 := jA base) (H0 := s.heap) (va_runS (As := [.int v6_11, .int 55296, .int 57343]) (rest := []) ⟨hx, hb, hml, hown, hts⟩ (uX14_in l dC dI ca base B hB hAp G0 H_11 v6_11 55296 57343) (va_cwS 3 hts (jgS (jWr_48 _ (List.mem_of_getElem? (i := 10) rfl)) (jWr_48 _ (List.mem_of_getElem? (i := 11) rfl)) (jWr_1 _ (List.mem_of_getElem? (i := 5) rfl)) (jWr_48 _ (List.mem_of_getElem? (i := 12) rfl))) rfl rfl rfl (by decide +kernel) ⟨by rw [← hR]; exact Nat.le_of_ble_eq_true rfl, by rw [← hR]; exact Nat.le_of_ble_eq_true rfl⟩) ⟨fun a U g mk q => by obtain ⟨q0, q1, q2, qK, q10, q11⟩ := q; exact ⟨q0, q1, q2, jG.calling g mk a qK, q10, q11⟩, fun U hU hW => ⟨rfl, hU, hh_11.2.1, hG.step hW hU hh_11.1, jP.nil, trivial⟩⟩ rfl rfl hl.1 rfl (lv_room (Nat.le_of_ble_eq_true rfl)) dX14_utfLength_214 ⟨Nat.zero_le _, Nat.zero_le _⟩) hh_11.1 (fun q _ h => h) (fun q h => h) (fun r_29 u_28 t_28 H_28 locs_28 ht_28 hvm_28 hr_29 hb_28 hz_28 hk_28 hS_28 => ?_)
                        rw [ht_28] at hb_28
                        obtain ⟨hb_281, hb_282, hb_283, hb_284, hb_285⟩ := hb_28
                        have hh_28 : jSt (dC, dI) B base G0 G0 EX14_utfLengthJ s.heap 0 0 [(r0, 16, 33, .int z_1)] [(r1, 110, n1, ca 1, fb)] [] H_28 locs_28 := ((hh_11.call hb_281 hb_282 hb_283 hb_284 hS_28 rfl (L1 := [(r0, 16, 33, .int z_1)]) [0] rfl rfl (M1 := [(r1, 110, n1, ca 1, fb)]) [0] rfl rfl (I1 := []) [] rfl rfl).more hb_285)
                        clear hh_11 ht_28 hvm_28 hz_28 hk_28 hS_28 hb_281 hb_282 hb_283 hb_284 hb_285
                        obtain ⟨hr_29b, hr_29p⟩ := hr_29
                        obtain ⟨hr_29p_0, hr_29p_1, hr_29p_2⟩ := hr_29p
                        have hr_29' := jb_01 hr_29b
                        have hi5 := jIn.or v6_11.toInt (55296 : Int32).toInt (57343 : Int32).toInt
                        refine lv_if_ne (tgt := 228) hx hb dX14_utfLength_217 (by decide) (fun c_30 => ?_) (fun c_30 => ?_)
                        · skip
                          have c_30' : r_29.toInt ≠ 0 := jb_ne (rfl) ((by decide)) c_30
                          refine lv_iconst (v := 0) hx hb dX14_utfLength_228 (by decide) ?_
                          rw [hQ]
                          exact W.iret (v := 0) hx hb hr (fun t ht hW => ⟨⟨0, z_1, rfl, by (try dsimp only); refine ⟨?_, by omega⟩; exact jUq.no rfl (jUc_k hb4 (by omega) hm5 (by omega) (by omega) (hi_11_3.symm.trans (jUr_z (by omega))) (jUk_x (by omega) rfl)), hh_28.rt (M1 := [(r0, 16, 33, .int z_1)]) [0] rfl ht⟩, by rw [ht]; try exact hh_28.1.1, fun q h9 hq => by rw [ht]; try exact hh_28.1.2.1 q h9 hq⟩) hh_28.1.2.2 dX14_utfLength_229
                        · skip
                          have c_30' : r_29.toInt = 0 := jb_ne_n (rfl) ((by decide)) c_30
                          refine lv_iload hx hb dX14_utfLength_220 (lv_at hl 6 rfl) ?_
                          refine lv_ldcw hx hb hown hcs_360 dX14_utfLength_222 ?_
                          refine lv_icmp_le (tgt := 230) hx hb dX14_utfLength_225 (by decide) (fun c_31 => ?_) (fun c_31 => ?_)
                          · skip
                            have c_31' : v6_11.toInt ≤ 1114111 := jb_le (rfl) ((by decide)) c_31
                            refine lv_aload_n hx hb dX14_utfLength_230 rfl (lv_at hl 0 rfl) ?_
                            refine lv_iload hx hb dX14_utfLength_231 (lv_at hl 6 rfl) ?_
                            refine j7_put hx hb hown hK hh_28 hB hAp hB16 (C := RX14) (T := TX14) (N := 74) rfl (by decide) hg_r0 (i := 33) (by decide) hly_16_33 rfl hlk_357 rfl (ty := .int) (v := .int v6_11) (by decide +kernel) rfl rfl (⟨_, rfl⟩) rfl (L1 := []) [] rfl rfl rfl dX14_utfLength_233 (fun H_32 locs_32 hh_32 => ?_)
                            clear hh_28
                            refine lv_iload hx hb dX14_utfLength_236 (lv_at hl 5 rfl) ?_
                            rw [hQ]
                            exact W.iret (v := w0_6) hx hb hr (fun t ht hW => ⟨⟨w0_6, v6_11, rfl, by (try dsimp only); refine ⟨?_, by omega⟩; exact jUq.yes (by omega) (by omega) (by omega) (by omega) (jUc_k hb4 (by omega) hm5 (by omega) (by omega) (hi_11_3.symm.trans (jUr_z (by omega))) (jUk_v (by omega) (by omega) (by omega) (by omega) (by omega) rfl)) (by omega), hh_32.rt (M1 := [(r0, 16, 33, .int v6_11)]) [0] rfl ht⟩, by rw [ht]; try exact hh_32.1.1, fun q h9 hq => by rw [ht]; try exact hh_32.1.2.1 q h9 hq⟩) hh_32.1.2.2 dX14_utfLength_238
                          · skip
                            have c_31' : v6_11.toInt > 1114111 := jb_le_n (rfl) ((by decide)) c_31
                            refine lv_iconst (v := 0) hx hb dX14_utfLength_228 (by decide) ?_
                            rw [hQ]
                            exact W.iret (v := 0) hx hb hr (fun t ht hW => ⟨⟨0, z_1, rfl, by (try dsimp only); refine ⟨?_, by omega⟩; exact jUq.no rfl (jUc_k hb4 (by omega) hm5 (by omega) (by omega) (hi_11_3.symm.trans (jUr_z (by omega))) (jUk_x (by omega) rfl)), hh_28.rt (M1 := [(r0, 16, 33, .int z_1)]) [0] rfl ht⟩, by rw [ht]; try exact hh_28.1.1, fun q h9 hq => by rw [ht]; try exact hh_28.1.2.1 q h9 hq⟩) hh_28.1.2.2 dX14_utfLength_229
                      · skip
                        have c_27' : w0_6.toInt = 4 := jb_ne_n (rfl) ((by decide)) c_27
                        refine lv_iload hx hb dX14_utfLength_201 (lv_at hl 6 rfl) ?_
                        refine lv_ldc hx hb hown hcs_197 dX14_utfLength_203 ?_
                        refine lv_icmp_lt (tgt := 228) hx hb dX14_utfLength_205 (by decide) (fun c_33 => ?_) (fun c_33 => ?_)
                        · skip
                          have c_33' : v6_11.toInt < 65536 := jb_lt (rfl) ((by decide)) c_33
                          refine lv_iconst (v := 0) hx hb dX14_utfLength_228 (by decide) ?_
                          rw [hQ]
                          exact W.iret (v := 0) hx hb hr (fun t ht hW => ⟨⟨0, z_1, rfl, by (try dsimp only); refine ⟨?_, by omega⟩; exact jUq.no rfl (jUc_k hb4 (by omega) hm5 (by omega) (by omega) (hi_11_3.symm.trans (jUr_z (by omega))) (jUk_x (by omega) rfl)), hh_11.rt (M1 := [(r0, 16, 33, .int z_1)]) [0] rfl ht⟩, by rw [ht]; try exact hh_11.1.1, fun q h9 hq => by rw [ht]; try exact hh_11.1.2.1 q h9 hq⟩) hh_11.1.2.2 dX14_utfLength_229
                        · skip
                          have c_33' : v6_11.toInt ≥ 65536 := jb_lt_n (rfl) ((by decide)) c_33
                          refine lv_iload hx hb dX14_utfLength_208 (lv_at hl 6 rfl) ?_
                          refine lv_ldc hx hb hown hcs_179 dX14_utfLength_210 ?_
                          refine lv_ldc hx hb hown hcs_186 dX14_utfLength_212 ?_
                          refine va_calli (A0 := jA base) (H0 := s.heap) (va_runS (As := [.int v6_11, .int 55296, .int 57343]) (rest := []) ⟨hx, hb, hml, hown, hts⟩ (uX14_in l dC dI ca base B hB hAp G0 H_11 v6_11 55296 57343) (va_cwS 3 hts (jgS (jWr_48 _ (List.mem_of_getElem? (i := 10) rfl)) (jWr_48 _ (List.mem_of_getElem? (i := 11) rfl)) (jWr_1 _ (List.mem_of_getElem? (i := 5) rfl)) (jWr_48 _ (List.mem_of_getElem? (i := 12) rfl))) rfl rfl rfl (by decide +kernel) ⟨by rw [← hR]; exact Nat.le_of_ble_eq_true rfl, by rw [← hR]; exact Nat.le_of_ble_eq_true rfl⟩) ⟨fun a U g mk q => by obtain ⟨q0, q1, q2, qK, q10, q11⟩ := q; exact ⟨q0, q1, q2, jG.calling g mk a qK, q10, q11⟩, fun U hU hW => ⟨rfl, hU, hh_11.2.1, hG.step hW hU hh_11.1, jP.nil, trivial⟩⟩ rfl rfl hl.1 rfl (lv_room (Nat.le_of_ble_eq_true rfl)) dX14_utfLength_214 ⟨Nat.zero_le _, Nat.zero_le _⟩) hh_11.1 (fun q _ h => h) (fun q h => h) (fun r_35 u_34 t_34 H_34 locs_34 ht_34 hvm_34 hr_35 hb_34 hz_34 hk_34 hS_34 => ?_)
                          rw [ht_34] at hb_34
                          obtain ⟨hb_341, hb_342, hb_343, hb_344, hb_345⟩ := hb_34
                          have hh_34 : jSt (dC, dI) B base G0 G0 EX14_utfLengthJ s.heap 0 0 [(r0, 16, 33, .int z_1)] [(r1, 110, n1, ca 1, fb)] [] H_34 locs_34 := ((hh_11.call hb_341 hb_342 hb_343 hb_344 hS_34 rfl (L1 := [(r0, 16, 33, .int z_1)]) [0] rfl rfl (M1 := [(r1, 110, n1, ca 1, fb)]) [0] rfl rfl (I1 := []) [] rfl rfl).more hb_345)
                          clear hh_11 ht_34 hvm_34 hz_34 hk_34 hS_34 hb_341 hb_342 hb_343 hb_344 hb_345
                          obtain ⟨hr_35b, hr_35p⟩ := hr_35
                          obtain ⟨hr_35p_0, hr_35p_1, hr_35p_2⟩ := hr_35p
                          have hr_35' := jb_01 hr_35b
                          have hi5 := jIn.or v6_11.toInt (55296 : Int32).toInt (57343 : Int32).toInt
                          refine lv_if_ne (tgt := 228) hx hb dX14_utfLength_217 (by decide) (fun c_36 => ?_) (fun c_36 => ?_)
                          · skip
                            have c_36' : r_35.toInt ≠ 0 := jb_ne (rfl) ((by decide)) c_36
                            refine lv_iconst (v := 0) hx hb dX14_utfLength_228 (by decide) ?_
                            rw [hQ]
                            exact W.iret (v := 0) hx hb hr (fun t ht hW => ⟨⟨0, z_1, rfl, by (try dsimp only); refine ⟨?_, by omega⟩; exact jUq.no rfl (jUc_k hb4 (by omega) hm5 (by omega) (by omega) (hi_11_3.symm.trans (jUr_z (by omega))) (jUk_x (by omega) rfl)), hh_34.rt (M1 := [(r0, 16, 33, .int z_1)]) [0] rfl ht⟩, by rw [ht]; try exact hh_34.1.1, fun q h9 hq => by rw [ht]; try exact hh_34.1.2.1 q h9 hq⟩) hh_34.1.2.2 dX14_utfLength_229
                          · skip
                            have c_36' : r_35.toInt = 0 := jb_ne_n (rfl) ((by decide)) c_36
                            refine lv_iload hx hb dX14_utfLength_220 (lv_at hl 6 rfl) ?_
                            refine lv_ldcw hx hb hown hcs_360 dX14_utfLength_222 ?_
                            refine lv_icmp_le (tgt := 230) hx hb dX14_utfLength_225 (by decide) (fun c_37 => ?_) (fun c_37 => ?_)
                            · skip
                              have c_37' : v6_11.toInt ≤ 1114111 := jb_le (rfl) ((by decide)) c_37
                              refine lv_aload_n hx hb dX14_utfLength_230 rfl (lv_at hl 0 rfl) ?_
                              refine lv_iload hx hb dX14_utfLength_231 (lv_at hl 6 rfl) ?_
                              refine j7_put hx hb hown hK hh_34 hB hAp hB16 (C := RX14) (T := TX14) (N := 74) rfl (by decide) hg_r0 (i := 33) (by decide) hly_16_33 rfl hlk_357 rfl (ty := .int) (v := .int v6_11) (by decide +kernel) rfl rfl (⟨_, rfl⟩) rfl (L1 := []) [] rfl rfl rfl dX14_utfLength_233 (fun H_38 locs_38 hh_38 => ?_)
                              clear hh_34
                              refine lv_iload hx hb dX14_utfLength_236 (lv_at hl 5 rfl) ?_
                              rw [hQ]
                              exact W.iret (v := w0_6) hx hb hr (fun t ht hW => ⟨⟨w0_6, v6_11, rfl, by (try dsimp only); refine ⟨?_, by omega⟩; exact jUq.yes (by omega) (by omega) (by omega) (by omega) (jUc_k hb4 (by omega) hm5 (by omega) (by omega) (hi_11_3.symm.trans (jUr_z (by omega))) (jUk_v (by omega) (by omega) (by omega) (by omega) (by omega) rfl)) (by omega), hh_38.rt (M1 := [(r0, 16, 33, .int v6_11)]) [0] rfl ht⟩, by rw [ht]; try exact hh_38.1.1, fun q h9 hq => by rw [ht]; try exact hh_38.1.2.1 q h9 hq⟩) hh_38.1.2.2 dX14_utfLength_238
                            · skip
                              have c_37' : v6_11.toInt > 1114111 := jb_le_n (rfl) ((by decide)) c_37
                              refine lv_iconst (v := 0) hx hb dX14_utfLength_228 (by decide) ?_
                              rw [hQ]
                              exact W.iret (v := 0) hx hb hr (fun t ht hW => ⟨⟨0, z_1, rfl, by (try dsimp only); refine ⟨?_, by omega⟩; exact jUq.no rfl (jUc_k hb4 (by omega) hm5 (by omega) (by omega) (hi_11_3.symm.trans (jUr_z (by omega))) (jUk_x (by omega) rfl)), hh_34.rt (M1 := [(r0, 16, 33, .int z_1)]) [0] rfl ht⟩, by rw [ht]; try exact hh_34.1.1, fun q h9 hq => by rw [ht]; try exact hh_34.1.2.1 q h9 hq⟩) hh_34.1.2.2 dX14_utfLength_229
                · skip
                  have c_12' : v7_11.toInt < w0_6.toInt := jb_ge_n (rfl) (rfl) c_12
                  refine lv_aload_n hx hb dX14_utfLength_138 rfl (lv_at hl 1 rfl) ?_
                  refine lv_iload_n hx hb dX14_utfLength_139 rfl (lv_at hl 2 rfl) ?_
                  refine lv_iload hx hb dX14_utfLength_140 (lv_at hl 7 rfl) ?_
                  refine lv_iadd hx hb dX14_utfLength_142 ?_
                  refine lv_topi (fun z_39 ez_39 => ?_)
                  have hz_39 : z_39.toInt = a2.toInt + v7_11.toInt := by rw [ez_39]; exact jb_iadd2 (rfl) (rfl) (by omega)
                  refine j7_ialdM hx hb hK hh_11 hB110 1 rfl (by decide) hg_r1 (x := z_39.toInt) (rfl) (by omega) (j := 0) rfl dX14_utfLength_143 (fun z_40 ez_40 (hz_40 : 0 ≤ z_40.toInt ∧ z_40.toInt ≤ 255) => ?_)
                  have hqz_40 : z_40.toInt = jSo fb ((a2.toInt + v7_11.toInt)) := by unfold jSo; rw [ez_40, show z_39.toInt = (a2.toInt + v7_11.toInt) by omega]
                  have hb7 : z_40.toInt = jB8 fb (a2.toInt + v7_11.toInt) := by unfold jB8; rw [← hqz_40]; omega
                  have hbr := hi_11_2.r (by omega)
                  refine lv_sipush (v := 128) hx hb dX14_utfLength_144 (by decide) ?_
                  refine lv_sipush (v := 191) hx hb dX14_utfLength_147 (by decide) ?_
                  refine va_calli (A0 := jA base) (H0 := s.heap) (va_runS (As := [.int z_40, .int 128, .int 191]) (rest := []) ⟨hx, hb, hml, hown, hts⟩ (uX14_in l dC dI ca base B hB hAp G0 H_11 z_40 128 191) (va_cwS 3 hts (jgS (jWr_48 _ (List.mem_of_getElem? (i := 10) rfl)) (jWr_48 _ (List.mem_of_getElem? (i := 11) rfl)) (jWr_1 _ (List.mem_of_getElem? (i := 5) rfl)) (jWr_48 _ (List.mem_of_getElem? (i := 12) rfl))) rfl rfl rfl (by decide +kernel) ⟨by rw [← hR]; exact Nat.le_of_ble_eq_true rfl, by rw [← hR]; exact Nat.le_of_ble_eq_true rfl⟩) ⟨fun a U g mk q => by obtain ⟨q0, q1, q2, qK, q10, q11⟩ := q; exact ⟨q0, q1, q2, jG.calling g mk a qK, q10, q11⟩, fun U hU hW => ⟨rfl, hU, hh_11.2.1, hG.step hW hU hh_11.1, jP.nil, trivial⟩⟩ rfl rfl hl.1 rfl (lv_room (Nat.le_of_ble_eq_true rfl)) dX14_utfLength_150 ⟨Nat.zero_le _, Nat.zero_le _⟩) hh_11.1 (fun q _ h => h) (fun q h => h) (fun r_42 u_41 t_41 H_41 locs_41 ht_41 hvm_41 hr_42 hb_41 hz_41 hk_41 hS_41 => ?_)
                  rw [ht_41] at hb_41
                  obtain ⟨hb_411, hb_412, hb_413, hb_414, hb_415⟩ := hb_41
                  have hh_41 : jSt (dC, dI) B base G0 G0 EX14_utfLengthJ s.heap 0 0 [(r0, 16, 33, .int z_1)] [(r1, 110, n1, ca 1, fb)] [] H_41 locs_41 := ((hh_11.call hb_411 hb_412 hb_413 hb_414 hS_41 rfl (L1 := [(r0, 16, 33, .int z_1)]) [0] rfl rfl (M1 := [(r1, 110, n1, ca 1, fb)]) [0] rfl rfl (I1 := []) [] rfl rfl).more hb_415)
                  clear hh_11 ht_41 hvm_41 hz_41 hk_41 hS_41 hb_411 hb_412 hb_413 hb_414 hb_415
                  obtain ⟨hr_42b, hr_42p⟩ := hr_42
                  obtain ⟨hr_42p_0, hr_42p_1, hr_42p_2⟩ := hr_42p
                  have hr_42' := jb_01 hr_42b
                  have hi4 := jIn.or z_40.toInt (128 : Int32).toInt (191 : Int32).toInt
                  refine lv_if_ne (tgt := 158) hx hb dX14_utfLength_153 (by decide) (fun c_43 => ?_) (fun c_43 => ?_)
                  · skip
                    have c_43' : r_42.toInt ≠ 0 := jb_ne (rfl) ((by decide)) c_43
                    refine lv_iload hx hb dX14_utfLength_158 (lv_at hl 6 rfl) ?_
                    refine lv_bipush (v := 6) hx hb dX14_utfLength_160 (by decide) ?_
                    refine lv_ishl hx hb dX14_utfLength_162 ?_
                    refine lv_topi (fun z_44 ez_44 => ?_)
                    have hbz_44 := jb_shlc 6 64 ez_44 (by decide) (by decide) (by omega) (by omega)
                    refine lv_aload_n hx hb dX14_utfLength_163 rfl (lv_at hl 1 rfl) ?_
                    refine lv_iload_n hx hb dX14_utfLength_164 rfl (lv_at hl 2 rfl) ?_
                    refine lv_iload hx hb dX14_utfLength_165 (lv_at hl 7 rfl) ?_
                    refine lv_iadd hx hb dX14_utfLength_167 ?_
                    refine lv_topi (fun z_45 ez_45 => ?_)
                    have hz_45 : z_45.toInt = a2.toInt + v7_11.toInt := by rw [ez_45]; exact jb_iadd2 (rfl) (rfl) (by omega)
                    refine j7_ialdM hx hb hK hh_41 hB110 1 rfl (by decide) hg_r1 (x := z_45.toInt) (rfl) (by omega) (j := 0) rfl dX14_utfLength_168 (fun z_46 ez_46 (hz_46 : 0 ≤ z_46.toInt ∧ z_46.toInt ≤ 255) => ?_)
                    have hqz_46 : z_46.toInt = jSo fb ((a2.toInt + v7_11.toInt)) := by unfold jSo; rw [ez_46, show z_45.toInt = (a2.toInt + v7_11.toInt) by omega]
                    refine lv_bipush (v := 63) hx hb dX14_utfLength_169 (by decide) ?_
                    refine lv_iand hx hb dX14_utfLength_171 ?_
                    refine lv_topi (fun z_47 ez_47 => ?_)
                    have hz_47 : 0 ≤ z_47.toInt ∧ z_47.toInt ≤ 63 := by rw [ez_47]; exact jb_and z_46 (m := 63) (k := 6) (by decide) (by decide)
                    refine lv_ior hx hb dX14_utfLength_172 ?_
                    refine lv_topi (fun z_48 ez_48 => ?_)
                    have hb8 : z_46.toInt = z_40.toInt := by rw [hqz_46, hqz_40]
                    have hy7 := jb_a63 ez_47
                    have hz5 := jb_or64 ez_48 v6_11.toInt (by omega) (by omega) (by omega) (by omega) (by omega)
                    refine lv_istore (lv' := [(6, .int z_48), (0, .ref r0), (1, .ref r1), (2, .int a2), (3, .int a3), (4, .int z_1), (5, .int w0_6), (7, .int v7_11)]) hx hb dX14_utfLength_173 hl (by decide) rfl (fun ls hl => ?_)
                    obtain ⟨z_49, ez_49⟩ : ∃ y : Int32, y = v7_11 + 1 := ⟨_, rfl⟩
                    refine lv_iinc (v := z_49) (lv' := [(7, .int z_49), (6, .int z_48), (0, .ref r0), (1, .ref r1), (2, .int a2), (3, .int a3), (4, .int z_1), (5, .int w0_6)]) hx hb dX14_utfLength_175 hl (k := 7) rfl (by rw [ez_49]; rfl) (by decide) rfl (fun ls hl => ?_)
                    have hz_49 : z_49.toInt = v7_11.toInt + 1 := by rw [ez_49]; exact jb_iadd2 (rfl) (by decide) (by omega)
                    refine lv_goto (tgt := 131) hx hb dX14_utfLength_178 (by decide) ?_
                    exact L131 z_48 z_49 _ _ hh_41 (by refine ⟨by omega, by omega, hi_11_2.step (y := z_47.toInt) (by omega) (by omega) (by omega) (by omega) (by omega), ?_⟩; exact ((jUr_e (by omega) (by omega) rfl).trans (jUr_n (by omega) hb7 (by omega) (by omega) rfl (by omega))).trans hi_11_3) (by omega) _ (lv_sub hl [2, 3, 4, 5, 6, 7, 1, 0] rfl)
                  · skip
                    have c_43' : r_42.toInt = 0 := jb_ne_n (rfl) ((by decide)) c_43
                    refine lv_iconst (v := 0) hx hb dX14_utfLength_156 (by decide) ?_
                    rw [hQ]
                    exact W.iret (v := 0) hx hb hr (fun t ht hW => ⟨⟨0, z_1, rfl, by (try dsimp only); refine ⟨?_, by omega⟩; exact jUq.no rfl (jUc_k hb4 (by omega) hm5 (by omega) (by omega) (hi_11_3.symm.trans (jUr_x (by omega) hb7 (by omega))) (jUk_x (Or.inl (by decide)) rfl)), hh_41.rt (M1 := [(r0, 16, 33, .int z_1)]) [0] rfl ht⟩, by rw [ht]; try exact hh_41.1.1, fun q h9 hq => by rw [ht]; try exact hh_41.1.2.1 q h9 hq⟩) hh_41.1.2.2 dX14_utfLength_157
            exact L131 (w0_6.toInt - (1 : Int32).toInt : Int).toNat.succ w0_10 1 _ _ hh_10 (by refine ⟨by omega, by omega, jUb.start hm5 (by omega) (by omega) (by omega) (by omega) (by omega) hi_10_1, ?_⟩; exact jUr_e (by omega) (by omega) hi_10_1) (by omega) _ (lv_sub hl [2, 3, 4, 5, 6, 7, 1, 0] rfl)
          refine lv_icmp_ne (tgt := 107) hx hb dX14_utfLength_96 (by decide) (fun c_50 => ?_) (fun c_50 => ?_)
          · skip
            have c_50' : w0_6.toInt ≠ 2 := jb_ne (rfl) ((by decide)) c_50
            refine lv_iload hx hb dX14_utfLength_107 (lv_at hl 0 rfl) ?_
            refine lv_iconst (v := 3) hx hb dX14_utfLength_109 (by decide) ?_
            refine lv_icmp_ne (tgt := 121) hx hb dX14_utfLength_110 (by decide) (fun c_51 => ?_) (fun c_51 => ?_)
            · skip
              have c_51' : w0_6.toInt ≠ 3 := jb_ne (rfl) ((by decide)) c_51
              refine lv_iload hx hb dX14_utfLength_121 (lv_at hl 5 rfl) ?_
              refine lv_bipush (v := 7) hx hb dX14_utfLength_123 (by decide) ?_
              refine lv_iand hx hb dX14_utfLength_125 ?_
              refine lv_topi (fun z_52 ez_52 => ?_)
              have hz_52 : 0 ≤ z_52.toInt ∧ z_52.toInt ≤ 7 := by rw [ez_52]; exact jb_and z_1 (m := 7) (k := 3) (by decide) (by decide)
              exact C126 z_52 _ _ hh_6 (⟨(by first | omega | rfl | assumption | (unfold jU0; rw [if_pos (by omega)]; exact jb_a31 (zz_none)) | (unfold jU0; rw [if_neg (by omega), if_pos (by omega), (zz_none)]; exact jb_and15 _) | (unfold jU0; rw [if_neg (by omega), if_neg (by omega)]; exact jb_a7 ez_52)), (by first | omega | rfl | assumption | (unfold jU0; rw [if_pos (by omega)]; exact jb_a31 (zz_none)) | (unfold jU0; rw [if_neg (by omega), if_pos (by omega), (zz_none)]; exact jb_and15 _) | (unfold jU0; rw [if_neg (by omega), if_neg (by omega)]; exact jb_a7 ez_52))⟩) _ (lv_sub hl [1, 2, 3, 4, 5, 0] rfl)
            · skip
              have c_51' : w0_6.toInt = 3 := jb_ne_n (rfl) ((by decide)) c_51
              refine lv_iload hx hb dX14_utfLength_113 (lv_at hl 5 rfl) ?_
              refine lv_bipush (v := 15) hx hb dX14_utfLength_115 (by decide) ?_
              refine lv_iand hx hb dX14_utfLength_117 ?_
              refine lv_topi (fun z_53 ez_53 => ?_)
              have hz_53 : 0 ≤ z_53.toInt ∧ z_53.toInt ≤ 15 := by rw [ez_53]; exact jb_and z_1 (m := 15) (k := 4) (by decide) (by decide)
              refine lv_goto (tgt := 126) hx hb dX14_utfLength_118 (by decide) ?_
              exact C126 z_53 _ _ hh_6 (⟨(by first | omega | rfl | assumption | (unfold jU0; rw [if_pos (by omega)]; exact jb_a31 (zz_none)) | (unfold jU0; rw [if_neg (by omega), if_pos (by omega), ez_53]; exact jb_and15 _) | (unfold jU0; rw [if_neg (by omega), if_neg (by omega)]; exact jb_a7 ez_52)), (by first | omega | rfl | assumption | (unfold jU0; rw [if_pos (by omega)]; exact jb_a31 (zz_none)) | (unfold jU0; rw [if_neg (by omega), if_pos (by omega), ez_53]; exact jb_and15 _) | (unfold jU0; rw [if_neg (by omega), if_neg (by omega)]; exact jb_a7 ez_52))⟩) _ (lv_sub hl [1, 2, 3, 4, 5, 0] rfl)
          · skip
            have c_50' : w0_6.toInt = 2 := jb_ne_n (rfl) ((by decide)) c_50
            refine lv_iload hx hb dX14_utfLength_99 (lv_at hl 5 rfl) ?_
            refine lv_bipush (v := 31) hx hb dX14_utfLength_101 (by decide) ?_
            refine lv_iand hx hb dX14_utfLength_103 ?_
            refine lv_topi (fun z_54 ez_54 => ?_)
            have hz_54 : 0 ≤ z_54.toInt ∧ z_54.toInt ≤ 31 := by rw [ez_54]; exact jb_and z_1 (m := 31) (k := 5) (by decide) (by decide)
            refine lv_goto (tgt := 126) hx hb dX14_utfLength_104 (by decide) ?_
            exact C126 z_54 _ _ hh_6 (⟨(by first | omega | rfl | assumption | (unfold jU0; rw [if_pos (by omega)]; exact jb_a31 ez_54) | (unfold jU0; rw [if_neg (by omega), if_pos (by omega), ez_53]; exact jb_and15 _) | (unfold jU0; rw [if_neg (by omega), if_neg (by omega)]; exact jb_a7 ez_52)), (by first | omega | rfl | assumption | (unfold jU0; rw [if_pos (by omega)]; exact jb_a31 ez_54) | (unfold jU0; rw [if_neg (by omega), if_pos (by omega), ez_53]; exact jb_and15 _) | (unfold jU0; rw [if_neg (by omega), if_neg (by omega)]; exact jb_a7 ez_52))⟩) _ (lv_sub hl [1, 2, 3, 4, 5, 0] rfl)
        · skip
          have c_9' : z_8.toInt > a3.toInt := jb_le_n (rfl) (rfl) c_9
          refine lv_iconst (v := 0) hx hb dX14_utfLength_91 (by decide) ?_
          rw [hQ]
          exact W.iret (v := 0) hx hb hr (fun t ht hW => ⟨⟨0, z_1, rfl, by (try dsimp only); refine ⟨?_, by omega⟩; exact jUq.no rfl (jUc_m hb4 (by omega) rfl (by first | exact Or.inl (jUm.none (by omega)) | (have h9 := jUm.ref (x := z_1.toInt) (n := w0_6.toInt) (by omega); omega)) rfl), hh_6.rt (M1 := [(r0, 16, 33, .int z_1)]) [0] rfl ht⟩, by rw [ht]; try exact hh_6.1.1, fun q h9 hq => by rw [ht]; try exact hh_6.1.2.1 q h9 hq⟩) hh_6.1.2.2 dX14_utfLength_92
    have hi1 := jIn.or z_1.toInt (194 : Int32).toInt (223 : Int32).toInt
    refine lv_if_eq (tgt := 39) hx hb dX14_utfLength_32 (by decide) (fun c_55 => ?_) (fun c_55 => ?_)
    · skip
      have c_55' : r_5.toInt = 0 := jb_eq (rfl) ((by decide)) c_55
      refine lv_iload hx hb dX14_utfLength_39 (lv_at hl 0 rfl) ?_
      refine lv_sipush (v := 224) hx hb dX14_utfLength_41 (by decide) ?_
      refine lv_sipush (v := 239) hx hb dX14_utfLength_44 (by decide) ?_
      refine va_calli (A0 := jA base) (H0 := s.heap) (va_runS (As := [.int z_1, .int 224, .int 239]) (rest := []) ⟨hx, hb, hml, hown, hts⟩ (uX14_in l dC dI ca base B hB hAp G0 H_4 z_1 224 239) (va_cwS 3 hts (jgS (jWr_48 _ (List.mem_of_getElem? (i := 10) rfl)) (jWr_48 _ (List.mem_of_getElem? (i := 11) rfl)) (jWr_1 _ (List.mem_of_getElem? (i := 5) rfl)) (jWr_48 _ (List.mem_of_getElem? (i := 12) rfl))) rfl rfl rfl (by decide +kernel) ⟨by rw [← hR]; exact Nat.le_of_ble_eq_true rfl, by rw [← hR]; exact Nat.le_of_ble_eq_true rfl⟩) ⟨fun a U g mk q => by obtain ⟨q0, q1, q2, qK, q10, q11⟩ := q; exact ⟨q0, q1, q2, jG.calling g mk a qK, q10, q11⟩, fun U hU hW => ⟨rfl, hU, hh_4.2.1, hG.step hW hU hh_4.1, jP.nil, trivial⟩⟩ rfl rfl hl.1 rfl (lv_room (Nat.le_of_ble_eq_true rfl)) dX14_utfLength_47 ⟨Nat.zero_le _, Nat.zero_le _⟩) hh_4.1 (fun q _ h => h) (fun q h => h) (fun r_57 u_56 t_56 H_56 locs_56 ht_56 hvm_56 hr_57 hb_56 hz_56 hk_56 hS_56 => ?_)
      rw [ht_56] at hb_56
      obtain ⟨hb_561, hb_562, hb_563, hb_564, hb_565⟩ := hb_56
      have hh_56 : jSt (dC, dI) B base G0 G0 EX14_utfLengthJ s.heap 0 0 [(r0, 16, 33, .int z_1)] [(r1, 110, n1, ca 1, fb)] [] H_56 locs_56 := ((hh_4.call hb_561 hb_562 hb_563 hb_564 hS_56 rfl (L1 := [(r0, 16, 33, .int z_1)]) [0] rfl rfl (M1 := [(r1, 110, n1, ca 1, fb)]) [0] rfl rfl (I1 := []) [] rfl rfl).more hb_565)
      clear hh_4 ht_56 hvm_56 hz_56 hk_56 hS_56 hb_561 hb_562 hb_563 hb_564 hb_565
      obtain ⟨hr_57b, hr_57p⟩ := hr_57
      obtain ⟨hr_57p_0, hr_57p_1, hr_57p_2⟩ := hr_57p
      have hr_57' := jb_01 hr_57b
      have hi2 := jIn.or z_1.toInt (224 : Int32).toInt (239 : Int32).toInt
      refine lv_if_eq (tgt := 57) hx hb dX14_utfLength_50 (by decide) (fun c_58 => ?_) (fun c_58 => ?_)
      · skip
        have c_58' : r_57.toInt = 0 := jb_eq (rfl) ((by decide)) c_58
        refine lv_iload hx hb dX14_utfLength_57 (lv_at hl 0 rfl) ?_
        refine lv_sipush (v := 240) hx hb dX14_utfLength_59 (by decide) ?_
        refine lv_sipush (v := 244) hx hb dX14_utfLength_62 (by decide) ?_
        refine va_calli (A0 := jA base) (H0 := s.heap) (va_runS (As := [.int z_1, .int 240, .int 244]) (rest := []) ⟨hx, hb, hml, hown, hts⟩ (uX14_in l dC dI ca base B hB hAp G0 H_56 z_1 240 244) (va_cwS 3 hts (jgS (jWr_48 _ (List.mem_of_getElem? (i := 10) rfl)) (jWr_48 _ (List.mem_of_getElem? (i := 11) rfl)) (jWr_1 _ (List.mem_of_getElem? (i := 5) rfl)) (jWr_48 _ (List.mem_of_getElem? (i := 12) rfl))) rfl rfl rfl (by decide +kernel) ⟨by rw [← hR]; exact Nat.le_of_ble_eq_true rfl, by rw [← hR]; exact Nat.le_of_ble_eq_true rfl⟩) ⟨fun a U g mk q => by obtain ⟨q0, q1, q2, qK, q10, q11⟩ := q; exact ⟨q0, q1, q2, jG.calling g mk a qK, q10, q11⟩, fun U hU hW => ⟨rfl, hU, hh_56.2.1, hG.step hW hU hh_56.1, jP.nil, trivial⟩⟩ rfl rfl hl.1 rfl (lv_room (Nat.le_of_ble_eq_true rfl)) dX14_utfLength_65 ⟨Nat.zero_le _, Nat.zero_le _⟩) hh_56.1 (fun q _ h => h) (fun q h => h) (fun r_60 u_59 t_59 H_59 locs_59 ht_59 hvm_59 hr_60 hb_59 hz_59 hk_59 hS_59 => ?_)
        rw [ht_59] at hb_59
        obtain ⟨hb_591, hb_592, hb_593, hb_594, hb_595⟩ := hb_59
        have hh_59 : jSt (dC, dI) B base G0 G0 EX14_utfLengthJ s.heap 0 0 [(r0, 16, 33, .int z_1)] [(r1, 110, n1, ca 1, fb)] [] H_59 locs_59 := ((hh_56.call hb_591 hb_592 hb_593 hb_594 hS_59 rfl (L1 := [(r0, 16, 33, .int z_1)]) [0] rfl rfl (M1 := [(r1, 110, n1, ca 1, fb)]) [0] rfl rfl (I1 := []) [] rfl rfl).more hb_595)
        clear hh_56 ht_59 hvm_59 hz_59 hk_59 hS_59 hb_591 hb_592 hb_593 hb_594 hb_595
        obtain ⟨hr_60b, hr_60p⟩ := hr_60
        obtain ⟨hr_60p_0, hr_60p_1, hr_60p_2⟩ := hr_60p
        have hr_60' := jb_01 hr_60b
        have hi3 := jIn.or z_1.toInt (240 : Int32).toInt (244 : Int32).toInt
        refine lv_if_eq (tgt := 75) hx hb dX14_utfLength_68 (by decide) (fun c_61 => ?_) (fun c_61 => ?_)
        · skip
          have c_61' : r_60.toInt = 0 := jb_eq (rfl) ((by decide)) c_61
          refine lv_iconst (v := 0) hx hb dX14_utfLength_75 (by decide) ?_
          exact C76 0 _ _ hh_59 (by first | omega | rfl | assumption | decide | exact Or.inl rfl | exact Or.inr rfl | (simp only; omega)) _ (lv_sub hl [1, 2, 3, 4, 0] rfl)
        · skip
          have c_61' : r_60.toInt ≠ 0 := jb_eq_n (rfl) ((by decide)) c_61
          refine lv_iconst (v := 4) hx hb dX14_utfLength_71 (by decide) ?_
          refine lv_goto (tgt := 76) hx hb dX14_utfLength_72 (by decide) ?_
          exact C76 4 _ _ hh_59 (by first | omega | rfl | assumption | decide | exact Or.inl rfl | exact Or.inr rfl | (simp only; omega)) _ (lv_sub hl [1, 2, 3, 4, 0] rfl)
      · skip
        have c_58' : r_57.toInt ≠ 0 := jb_eq_n (rfl) ((by decide)) c_58
        refine lv_iconst (v := 3) hx hb dX14_utfLength_53 (by decide) ?_
        refine lv_goto (tgt := 76) hx hb dX14_utfLength_54 (by decide) ?_
        exact C76 3 _ _ hh_56 (by first | omega | rfl | assumption | decide | exact Or.inl rfl | exact Or.inr rfl | (simp only; omega)) _ (lv_sub hl [1, 2, 3, 4, 0] rfl)
    · skip
      have c_55' : r_5.toInt ≠ 0 := jb_eq_n (rfl) ((by decide)) c_55
      refine lv_iconst (v := 2) hx hb dX14_utfLength_35 (by decide) ?_
      refine lv_goto (tgt := 76) hx hb dX14_utfLength_36 (by decide) ?_
      exact C76 2 _ _ hh_4 (by first | omega | rfl | assumption | decide | exact Or.inl rfl | exact Or.inr rfl | (simp only; omega)) _ (lv_sub hl [1, 2, 3, 4, 0] rfl)
  · skip
    have c_3' : z_1.toInt < 128 := jb_ge_n (rfl) ((by decide)) c_3
    refine lv_iconst (v := 1) hx hb dX14_utfLength_19 (by decide) ?_
    rw [hQ]
    exact W.iret (v := 1) hx hb hr (fun t ht hW => ⟨⟨1, z_1, rfl, by (try dsimp only); refine ⟨?_, by omega⟩; exact jUq.yes (by omega) (by omega) (by omega) (by omega) (jUc_a hb4 (by omega)) (by omega), hh_2.rt (M1 := [(r0, 16, 33, .int z_1)]) [0] rfl ht⟩, by rw [ht]; try exact hh_2.1.1, fun q h9 hq => by rw [ht]; try exact hh_2.1.2.1 q h9 hq⟩) hh_2.1.2.2 dX14_utfLength_20
end
