section
def EX11_isAskedAboutT : List (Nat × Nat) := []
def EX11_nextToCheckT : List (Nat × Nat) := []
set_option maxHeartbeats 4000000 in
set_option maxRecDepth 20000 in
theorem uX11_isAskedAboutT (l : Launch) (dC : Nat → ClassId) (dI : Nat → Nat → Nat) (ca : Nat → ClassId) (base : Nat) (B : jF) (hB : jBok B) (hAp : jAp (dC, dI)) (hB1 : ∀ n G a H, B 1 n G a H ↔ jOb (dC, dI) 1 3 (F1 n G) a H) (hB3 : ∀ n G a H, B 3 n G a H ↔ jOb (dC, dI) 3 17 (F3 n G) a H) (hB10 : ∀ n G a H, B 10 n G a H ↔ jOb (dC, dI) 10 5 (F10 n G) a H) (hB13 : ∀ n G a H, B 13 n G a H ↔ jOb (dC, dI) 13 19 (F13 n G) a H) (hB222 : ∀ n G a H, B 222 n G a H ↔ jAq (dC, dI) (ca 9) (jQn 10 0) n G a H) (G0 : jT) (H0 : Heap) (r0 : Nat) (r1 : Nat) (wt_ : Nat) (wz : Int32) (wl : jWl9) (qq : jRqG) : Met l yX11_isAskedAbout (jw yX11_isAskedAbout cX11_isAskedAbout 3 (some .boolean)) ({ frames := 3, cells := 0, slots := 0, locals := 64 }) (va_Pc [.ref r0, .ref r1] (fun U => U.heap = H0 ∧ jX B base G0 [] H0 ∧ jG dC dI ca base U ∧ jK7 dC dI ca base U ∧ G0 r0 = some (13, 0) ∧ G0 r1 = some (3, 0) ∧ G0 wt_ = some (1, 2) ∧ jP (dC, dI) G0 H0 [(r0, 13, 8, .ref wt_), (wt_, 1, 2, .int wz)] ∧ jIs (dC, dI) G0 H0 [(jFl, jLs dC dI ca G0 3 none wl), (jFqd, jQD dC dI ca G0 none qq)] ∧ True)) (va_Qi (S := Unit) (fun r u => (r = 0 ∨ r = 1) ∧ (((r.toInt = 1 ∧ (∃ x ∈ wl.2.2.1, qq.ab x = .ref r1)) ∨ (r.toInt = 0 ∧ ¬ (∃ x ∈ wl.2.2.1, qq.ab x = .ref r1))))) (fun u t => (jRt (dC, dI) B base G0 EX11_isAskedAboutT H0 [] t.heap) ∧ jIs (dC, dI) G0 t.heap [(jFl, jLs dC dI ca G0 3 none wl), (jFqd, jQD dC dI ca G0 none qq)]) (jA base)) 0 0 (jA base) := by
  refine Met.ofW (cc := cX11_isAskedAbout) (maxL := 3) (ret := (some .boolean)) (by decide) rfl ?_
  intro p e s m args below meth c s₁ Bd hml hv
  obtain ⟨rfl, hH0, hX, hG, hK7, hg_r0, hg_r1, hg_wt_, hP0, hI0, hp0⟩ := hv
  have hK := hG.1
  have hx := Bd.exec
  have hb := Bd.bytes
  have hr := Bd.returns
  have hts := atoms_spec (ws := (jw yX11_isAskedAbout cX11_isAskedAbout 3 (some .boolean))) Bd.pre
  have htw : ∀ w ∈ jWl, w.before _ s = true := fun w h => hts w (List.mem_cons_of_mem _ h)
  have hown : s.vm.findClass RX11 = some m.cls := findClass_of_methodNamed Bd.named
  have hlocks := Bd.notSynchronized
  obtain ⟨Q, hQ⟩ : ∃ Q, Q = MQ below (va_Qi (S := Unit) (fun r u => (r = 0 ∨ r = 1) ∧ (((r.toInt = 1 ∧ (∃ x ∈ wl.2.2.1, qq.ab x = .ref r1)) ∨ (r.toInt = 0 ∧ ¬ (∃ x ∈ wl.2.2.1, qq.ab x = .ref r1))))) (fun u t => (jRt (dC, dI) B base G0 EX11_isAskedAboutT H0 [] t.heap) ∧ jIs (dC, dI) G0 t.heap [(jFl, jLs dC dI ca G0 3 none wl), (jFqd, jQD dC dI ca G0 none qq)]) (jA base)) ([.ref r0, .ref r1] : List Value).toArray s 0 0 (jA base) := ⟨_, rfl⟩
  rw [← hQ]
  have hl := lv_entry ([.ref r0, .ref r1]) (n := 3) (Nat.le_of_ble_eq_true rfl)
  rw [lg_entry_eq]
  generalize (lg_sl ([.ref r0, .ref r1]) ++ List.replicate (3 - (lg_sl ([.ref r0, .ref r1])).length) Slot.unset).toArray = ls at hl ⊢
  have hl : lv_has ls 3 [(0, .ref r0), (1, .ref r1)] := hl
  generalize hR : (headSpec (jw yX11_isAskedAbout cX11_isAskedAbout 3 (some .boolean)) ({ frames := 3, cells := 0, slots := 0, locals := 64 })).room = R
  subst hH0
  have hh : jSt (dC, dI) B base G0 G0 EX11_isAskedAboutT s.heap 0 0 [(r0, 13, 8, .ref wt_), (wt_, 1, 2, .int wz)] [] [(jFl, jLs dC dI ca G0 3 none wl), (jFqd, jQD dC dI ca G0 none qq)] s.heap [] := jSt.start hX hP0 jMc.nil hI0
  clear hX hP0
  have hk0 : (0 : Int32).toInt = 0 := by decide
  have hk1 : (1 : Int32).toInt = 1 := by decide
  have hly_10_1 := htw (u_lay RX8 TX8 1) (jWc_wsX80 _ (u_in_lay (by decide)))
  have hly_13_8 := htw (u_lay RX11 TX11 8) (jWc_wsX110 _ (u_in_lay (by decide)))
  have hlk_65 := (htw (.fieldLink RX11 65 "ProofServer" "waiting" "Ljava/util/List;") (jWr_2 _ (List.mem_of_getElem? (i := 15) rfl)))
  have hlk_432 := (htw (.fieldLink RX11 432 "ProofServer$Request" "about" "LProofServer$Document;") (jWr_27 _ (List.mem_of_getElem? (i := 14) rfl)))
  have hws2 : (wl.2.2.1.length : Int) = wz.toInt ∧ wz.toInt ≤ 12 := jLs.sz2 (hh.iv 0 rfl) hg_wt_ (by decide) (hh.at 1 rfl)
  refine lv_iconst (v := 0) hx hb dX11_isAskedAbout_0 (by decide) ?_
  refine lv_istore_n (lv' := [(2, .int 0), (0, .ref r0), (1, .ref r1)]) hx hb dX11_isAskedAbout_1 rfl hl (by decide) rfl (fun ls hl => ?_)
  have L2 : ∀ (N : Nat) (v2_1 : Int32) (H_1 : Heap) (locs_1 : List Loc), jSt (dC, dI) B base G0 G0 EX11_isAskedAboutT s.heap 0 0 [(r0, 13, 8, .ref wt_), (wt_, 1, 2, .int wz)] [] [(jFl, jLs dC dI ca G0 3 none wl), (jFqd, jQD dC dI ca G0 none qq)] H_1 locs_1 → (0 ≤ v2_1.toInt ∧ v2_1.toInt ≤ wz.toInt ∧ (∀ (i x : Nat), (i : Int) < v2_1.toInt → wl.2.2.1[i]? = some x → qq.ab x ≠ .ref r1)) → (wz.toInt - v2_1.toInt : Int) < N → ∀ ls : Array Slot, lv_has ls 3 [(0, .ref r0), (1, .ref r1), (2, .int v2_1)] → W p l e R s m ([.ref r0, .ref r1] : List Value).toArray below meth c H_1 locs_1 0 0 Q (F0 m 2 ls []) := by
    intro N
    induction N with
    | zero => intro v2_1 H_1 locs_1 hh_1  hi_1 hm; exact absurd hm (by omega)
    | succ N L2 =>
      intro v2_1 H_1 locs_1 hh_1  hi_1 hm_1 ls hl
      obtain ⟨hi_1_0, hi_1_1, hi_1_2⟩ := hi_1
      refine lv_iload_n hx hb dX11_isAskedAbout_2 rfl (lv_at hl 2 rfl) ?_
      refine lv_aload_n hx hb dX11_isAskedAbout_3 rfl (lv_at hl 0 rfl) ?_
      refine j7_read hx hb hown hK (C := RX11) (T := TX11) (N := 19) rfl hly_13_8 hlk_65 (hh_1.at 0 rfl) dX11_isAskedAbout_4 ?_
      refine va_callFi (A0 := jA base) (H0 := s.heap) (va_runF (hK.1 1 _ rfl).2 (As := []) (rest := [.int v2_1]) ⟨hx, hb, hml, hown, hts⟩ (uJx4a65c_size_8abf5 l dC dI ca base B hB hAp hB1 G0 H_1 wt_ 2 wz) (va_cwF 0 hts (jgF (jWr_27 _ (List.mem_of_getElem? (i := 22) rfl)) (jWr_27 _ (List.mem_of_getElem? (i := 23) rfl)) (jWr_28 _ (List.mem_of_getElem? (i := 0) rfl)) (jWr_2 _ (List.mem_of_getElem? (i := 13) rfl)) (jWr_28 _ (List.mem_of_getElem? (i := 1) rfl))) rfl rfl rfl hK7.2.2.2.2.2.1.1 ⟨by decide, by decide, by decide +kernel⟩ ⟨by rw [← hR]; exact Nat.le_of_ble_eq_true rfl, by rw [← hR]; exact Nat.le_of_ble_eq_true rfl⟩) ⟨fun a U g mk q => by obtain ⟨q0, q1, q2, qK, q10, q11, q12⟩ := q; exact ⟨q0, q1, q2, jG.calling g mk a qK, q10, q11, q12⟩, hh_1.recv (C := RJx4a65c) (T := TJx4a65c) (N := 3) hB1 rfl (by decide) hg_wt_ hK, fun U hU hW => ⟨rfl, hU, hh_1.2.1, hG.step hW hU hh_1.1, hg_wt_, (hh_1.2.2.1.sub (L1 := [(wt_, 1, 2, .int wz)]) [1] rfl), trivial⟩⟩ rfl rfl hl.1 rfl (lv_room (Nat.le_of_ble_eq_true rfl)) dX11_isAskedAbout_7 ⟨Nat.zero_le _, Nat.zero_le _⟩) hh_1.1 (fun q _ h => h) (fun q h => h) (fun r_3 u_2 t_2 H_2 locs_2 ht_2 hvm_2 hr_3 hb_2 hz_2 hk_2 hS_2 => ?_)
      rw [ht_2] at hb_2
      obtain ⟨hb_21, hb_22, hb_23, hb_24, hb_25⟩ := hb_2
      have hh_2 : jSt (dC, dI) B base G0 G0 EX11_isAskedAboutT s.heap 0 0 [(r0, 13, 8, .ref wt_), (wt_, 1, 2, .int wz)] [] [(jFl, jLs dC dI ca G0 3 none wl), (jFqd, jQD dC dI ca G0 none qq)] H_2 locs_2 := ((hh_1.call hb_21 hb_22 hb_23 hb_24 hS_2 rfl (L1 := [(r0, 13, 8, .ref wt_), (wt_, 1, 2, .int wz)]) [0, 1] rfl rfl (M1 := []) [] rfl rfl (I1 := [(jFl, jLs dC dI ca G0 3 none wl), (jFqd, jQD dC dI ca G0 none qq)]) [0, 1] rfl rfl).more hb_25)
      clear hh_1 ht_2 hvm_2 hz_2 hk_2 hS_2 hb_21 hb_22 hb_23 hb_24 hb_25
      refine lv_icmp_ge (tgt := 43) hx hb dX11_isAskedAbout_12 (by decide) (fun c_4 => ?_) (fun c_4 => ?_)
      · skip
        have c_4' : v2_1.toInt ≥ r_3.toInt := jb_ge (rfl) (rfl) c_4
        refine lv_iconst (v := 0) hx hb dX11_isAskedAbout_43 (by decide) ?_
        rw [hQ]
        exact W.zret (v := 0) hx hb hr (jb_nz (Or.inl rfl)) (fun t ht hW => ⟨⟨0, (), rfl, ⟨(Or.inl rfl), Or.inr ⟨hk0, fun ⟨x, hx, he⟩ => by obtain ⟨i, hi, ei⟩ := List.mem_iff_getElem.mp hx; exact hi_1_2 i x (by have h9 := hws2.1; omega) (by rw [List.getElem?_eq_getElem hi, ei]) he⟩⟩, ⟨hh_2.rt (M1 := []) [] rfl ht, by rw [ht]; exact hh_2.2.2.2.2.2.2.2.2.sub (L1 := [(jFl, jLs dC dI ca G0 3 none wl), (jFqd, jQD dC dI ca G0 none qq)]) [0, 1] rfl⟩⟩, by rw [ht]; try exact hh_2.1.1, fun q h9 hq => by rw [ht]; try exact hh_2.1.2.1 q h9 hq⟩) hh_2.1.2.2 dX11_isAskedAbout_44
      · skip
        have c_4' : v2_1.toInt < r_3.toInt := jb_ge_n (rfl) (rfl) c_4
        refine lv_aload_n hx hb dX11_isAskedAbout_15 rfl (lv_at hl 0 rfl) ?_
        refine j7_read hx hb hown hK (C := RX11) (T := TX11) (N := 19) rfl hly_13_8 hlk_65 (hh_2.at 0 rfl) dX11_isAskedAbout_16 ?_
        refine lv_iload_n hx hb dX11_isAskedAbout_19 rfl (lv_at hl 2 rfl) ?_
        refine j_callFx (A0 := jA base) (H0 := s.heap) (va_runF (hK.1 1 _ rfl).2 (As := [.int v2_1]) (rest := []) ⟨hx, hb, hml, hown, hts⟩ (uJx4a65c_get_915e3L2 l dC dI ca base B hB hAp hB1 hB10 hB222 G0 H_2 wt_ v2_1 wz wl) (va_cwF 1 hts (jgF (jWr_28 _ (List.mem_of_getElem? (i := 3) rfl)) (jWr_28 _ (List.mem_of_getElem? (i := 4) rfl)) (jWr_28 _ (List.mem_of_getElem? (i := 5) rfl)) (jWr_2 _ (List.mem_of_getElem? (i := 13) rfl)) (jWr_28 _ (List.mem_of_getElem? (i := 6) rfl))) rfl rfl rfl hK7.2.2.2.2.2.1.2.1 ⟨by decide, by decide, by decide +kernel⟩ ⟨by rw [← hR]; exact Nat.le_of_ble_eq_true rfl, by rw [← hR]; exact Nat.le_of_ble_eq_true rfl⟩) ⟨fun a U g mk q => by obtain ⟨q0, q1, q2, qK, q10, q11, q12, q13, q14⟩ := q; exact ⟨q0, q1, q2, jG.calling g mk a qK, (jK7.calling g mk a q10), q11, q12, q13, q14⟩, hh_2.recv (C := RJx4a65c) (T := TJx4a65c) (N := 3) hB1 rfl (by decide) hg_wt_ hK, fun U hU hW => ⟨rfl, hU, hh_2.2.1, hG.step hW hU hh_2.1, (hK7.step hW hU hh_2.1), hg_wt_, (hh_2.2.2.1.sub (L1 := [(wt_, 1, 2, .int wz)]) [1] rfl), (hh_2.2.2.2.2.2.2.2.2.sub (L1 := [(jFl, jLs dC dI ca G0 3 none wl)]) [0] rfl), by first | omega | (refine ⟨?_, ?_⟩ <;> (first | omega | rfl | assumption | decide | exact Or.inl rfl | exact Or.inr rfl | (simp only; omega)))⟩⟩ rfl rfl hl.1 rfl (lv_room (Nat.le_of_ble_eq_true rfl)) dX11_isAskedAbout_20 ⟨Nat.zero_le _, Nat.zero_le _⟩) hh_2.1 (fun q _ h => h) (fun q h => h) (fun r_6 u_5 t_5 H_5 locs_5 ht_5 hvm_5 hr_6 hb_5 hz_5 hk_5 hS_5 => ?_)
        rw [ht_5] at hb_5
        obtain ⟨hb_5, hbE_5⟩ := hb_5
        obtain ⟨hb_51, hb_52, hb_53, hb_54, hb_55⟩ := hb_5
        have hh_5 : jSt (dC, dI) B base G0 G0 EX11_isAskedAboutT s.heap 0 0 [(r0, 13, 8, .ref wt_), (wt_, 1, 2, .int wz)] [] [(jFl, jLs dC dI ca G0 3 none wl), (jFqd, jQD dC dI ca G0 none qq)] H_5 locs_5 := (((hh_2.call hb_51 hb_52 hb_53 hb_54 hS_5 rfl (L1 := [(r0, 13, 8, .ref wt_), (wt_, 1, 2, .int wz)]) [0, 1] rfl rfl (M1 := []) [] rfl rfl (I1 := [(jFqd, jQD dC dI ca G0 none qq)]) [1] rfl rfl).more hb_55)).addIs hbE_5
        clear hh_2 ht_5 hvm_5 hz_5 hk_5 hS_5 hb_51 hb_52 hb_53 hb_54 hb_55
        clear  hbE_5
        obtain ⟨hr_6, hr_6p⟩ := hr_6
        obtain ⟨ret_7, rfl, hg_ret_7⟩ := hr_6
        refine va_castY hx hb hown (htw (.classLink RX11 115 "ProofServer$Request") (jWr_42 _ (List.mem_of_getElem? (i := 5) rfl))) hK7.2.2.1.2.1.2 (hh_5.recv (C := RX8) (T := TX8) (N := 5) hB10 rfl (by decide) hg_ret_7 hK) dX11_isAskedAbout_25 ?_
        obtain ⟨hgP_8, hgM_8⟩ := jQD.at (ca := ca) (hh_5.iv 1 rfl) hg_ret_7 (fun q => by cases q)
        have hh_9 := ((hh_5.sub (L1 := [(r0, 13, 8, .ref wt_), (wt_, 1, 2, .int wz)]) [0, 1] rfl (M1 := []) [] rfl (I1 := [(jFl, jLs dC dI ca G0 3 none wl), (jFqd, jQD dC dI ca G0 none qq)]) [0, 1] rfl).more (hgP_8.sub (L1 := [(ret_7, 10, 2, .int (qq.nd ret_7)), (ret_7, 10, 0, (qq.iv ret_7)), (ret_7, 10, 1, (qq.ab ret_7))]) [0, 1, 2] rfl)).moreM hgM_8
        clear hh_5
        have hwf_10 := hh_9.at 2 rfl
        have hh_11 := hh_9.sub (L1 := [(ret_7, 10, 2, .int (qq.nd ret_7)), (ret_7, 10, 0, (qq.iv ret_7)), (r0, 13, 8, .ref wt_), (wt_, 1, 2, .int wz)]) [0, 1, 3, 4] rfl (M1 := []) [] rfl (I1 := [(jFl, jLs dC dI ca G0 3 none wl), (jFqd, jQD dC dI ca G0 none qq)]) [0, 1] rfl
        clear hh_9
        obtain ⟨v_12, hv_12, hh_13⟩ := hh_11.pin (C := RX8) (T := TX8) (N := 5) hB10 rfl (by decide) hg_ret_7 (i := 1) (by decide) rfl
        clear hh_11
        have hwe28 : (qq.ab ret_7) = v_12 := jf.uniq hwf_10 (hh_13.at 0 rfl)
        clear hwf_10
        rcases hv_12 with rfl | ⟨about_14, rfl, hg_about_14⟩
        · refine j7_read hx hb hown hK (C := RX8) (T := TX8) (N := 5) rfl hly_10_1 hlk_432 (hh_13.at 0 rfl) dX11_isAskedAbout_28 ?_
          refine lv_aload_n hx hb dX11_isAskedAbout_31 rfl (lv_at hl 1 rfl) ?_
          refine lv_acmp_ne (rx := none) (ry := (some r1)) (tgt := 37) hx hb dX11_isAskedAbout_32 (by decide) (fun c_15 => ?_) (fun c_15 => ?_)
          · skip
            obtain ⟨z_16, ez_16⟩ : ∃ y : Int32, y = v2_1 + 1 := ⟨_, rfl⟩
            refine lv_iinc (v := z_16) (lv' := [(2, .int z_16), (0, .ref r0), (1, .ref r1)]) hx hb dX11_isAskedAbout_37 hl (k := 2) rfl (by rw [ez_16]; rfl) (by decide) rfl (fun ls hl => ?_)
            have hz_16 : z_16.toInt = v2_1.toInt + 1 := by rw [ez_16]; exact jb_iadd2 (rfl) (by decide) (by omega)
            refine lv_goto (tgt := 2) hx hb dX11_isAskedAbout_40 (by decide) ?_
            exact L2 z_16 _ _ (hh_13.sub (L1 := [(r0, 13, 8, .ref wt_), (wt_, 1, 2, .int wz)]) [3, 4] rfl (M1 := []) [] rfl (I1 := [(jFl, jLs dC dI ca G0 3 none wl), (jFqd, jQD dC dI ca G0 none qq)]) [0, 1] rfl) (⟨by omega, by omega, fun i x hi hx he => by by_cases q9 : (i : Int) < v2_1.toInt; exact hi_1_2 i x q9 hx he; have e9 : i = v2_1.toInt.toNat := (by omega); have h9 := jdAt hr_6p; rw [← e9, hx] at h9; have h8 := Option.some.inj h9; rw [h8] at he; rw [hwe28] at he; first | (cases he; done) | exact absurd (congrArg some (Value.ref.inj he)) c_15⟩) (by omega) _ (lv_sub hl [1, 2, 0] rfl)
          · skip
            cases c_15
        · refine j7_read hx hb hown hK (C := RX8) (T := TX8) (N := 5) rfl hly_10_1 hlk_432 (hh_13.at 0 rfl) dX11_isAskedAbout_28 ?_
          refine lv_aload_n hx hb dX11_isAskedAbout_31 rfl (lv_at hl 1 rfl) ?_
          refine lv_acmp_ne (rx := (some about_14)) (ry := (some r1)) (tgt := 37) hx hb dX11_isAskedAbout_32 (by decide) (fun c_17 => ?_) (fun c_17 => ?_)
          · skip
            obtain ⟨z_18, ez_18⟩ : ∃ y : Int32, y = v2_1 + 1 := ⟨_, rfl⟩
            refine lv_iinc (v := z_18) (lv' := [(2, .int z_18), (0, .ref r0), (1, .ref r1)]) hx hb dX11_isAskedAbout_37 hl (k := 2) rfl (by rw [ez_18]; rfl) (by decide) rfl (fun ls hl => ?_)
            have hz_18 : z_18.toInt = v2_1.toInt + 1 := by rw [ez_18]; exact jb_iadd2 (rfl) (by decide) (by omega)
            refine lv_goto (tgt := 2) hx hb dX11_isAskedAbout_40 (by decide) ?_
            exact L2 z_18 _ _ (hh_13.sub (L1 := [(r0, 13, 8, .ref wt_), (wt_, 1, 2, .int wz)]) [3, 4] rfl (M1 := []) [] rfl (I1 := [(jFl, jLs dC dI ca G0 3 none wl), (jFqd, jQD dC dI ca G0 none qq)]) [0, 1] rfl) (⟨by omega, by omega, fun i x hi hx he => by by_cases q9 : (i : Int) < v2_1.toInt; exact hi_1_2 i x q9 hx he; have e9 : i = v2_1.toInt.toNat := (by omega); have h9 := jdAt hr_6p; rw [← e9, hx] at h9; have h8 := Option.some.inj h9; rw [h8] at he; rw [hwe28] at he; first | (cases he; done) | exact absurd (congrArg some (Value.ref.inj he)) c_17⟩) (by omega) _ (lv_sub hl [1, 2, 0] rfl)
          · skip
            refine lv_iconst (v := 1) hx hb dX11_isAskedAbout_35 (by decide) ?_
            rw [hQ]
            exact W.zret (v := 1) hx hb hr (jb_nz (Or.inr rfl)) (fun t ht hW => ⟨⟨1, (), rfl, ⟨(Or.inr rfl), Or.inl ⟨hk1, _, List.mem_of_getElem? (jdAt hr_6p), hwe28.trans (congrArg Value.ref (Option.some.inj c_17))⟩⟩, ⟨hh_13.rt (M1 := []) [] rfl ht, by rw [ht]; exact hh_13.2.2.2.2.2.2.2.2.sub (L1 := [(jFl, jLs dC dI ca G0 3 none wl), (jFqd, jQD dC dI ca G0 none qq)]) [0, 1] rfl⟩⟩, by rw [ht]; try exact hh_13.1.1, fun q h9 hq => by rw [ht]; try exact hh_13.1.2.1 q h9 hq⟩) hh_13.1.2.2 dX11_isAskedAbout_36
  exact L2 (wz.toInt - (0 : Int32).toInt : Int).toNat.succ 0 _ _ hh (⟨by omega, by omega, fun i x hi => by have h9 := hk0; omega⟩) (by omega) _ (lv_sub hl [1, 2, 0] rfl)
set_option maxHeartbeats 4000000 in
set_option maxRecDepth 20000 in
theorem uX11_nextToCheckT (l : Launch) (dC : Nat → ClassId) (dI : Nat → Nat → Nat) (ca : Nat → ClassId) (base : Nat) (B : jF) (hB : jBok B) (hAp : jAp (dC, dI)) (hB1 : ∀ n G a H, B 1 n G a H ↔ jOb (dC, dI) 1 3 (F1 n G) a H) (hB3 : ∀ n G a H, B 3 n G a H ↔ jOb (dC, dI) 3 17 (F3 n G) a H) (hB10 : ∀ n G a H, B 10 n G a H ↔ jOb (dC, dI) 10 5 (F10 n G) a H) (hB11 : ∀ n G a H, B 11 n G a H ↔ jOb (dC, dI) 11 9 (F11 n G) a H) (hB13 : ∀ n G a H, B 13 n G a H ↔ jOb (dC, dI) 13 19 (F13 n G) a H) (hB171 : ∀ n G a H, B 171 n G a H ↔ jAr (dC, dI) (ca 1) (fun j z => 0 ≤ z.toInt ∧ z.toInt ≤ 1500) n a H) (hB172 : ∀ n G a H, B 172 n G a H ↔ jAr (dC, dI) (ca 1) (fun j z => 0 ≤ z.toInt ∧ z.toInt ≤ 1500) n a H) (hB175 : ∀ n G a H, B 175 n G a H ↔ jAr (dC, dI) (ca 1) (fun j z => True) n a H) (hB176 : ∀ n G a H, B 176 n G a H ↔ jAr (dC, dI) (ca 1) (fun j z => True) n a H) (hB210 : ∀ n G a H, B 210 n G a H ↔ jAq (dC, dI) (ca 6) (jQn 11 0) n G a H) (hB221 : ∀ n G a H, B 221 n G a H ↔ jAq (dC, dI) (ca 9) (jQn 3 0) n G a H) (hB222 : ∀ n G a H, B 222 n G a H ↔ jAq (dC, dI) (ca 9) (jQn 10 0) n G a H) (G0 : jT) (H0 : Heap) (r0 : Nat) (op : Nat) (sz : Int32) (wt_ : Nat) (wz : Int32) (s0 : Nat) (tq : jDtl) (kq : jKg) (wl : jWl9) (ho : Nat → Option Nat) (us rw : Nat → List Int) (qq : jRqG) (ib : Nat → List Int) (S9 : Int × (Int → jdD)) (Z9 : jwSt) : Met l yX11_nextToCheck (jw yX11_nextToCheck cX11_nextToCheck 4 (some (.object "ProofServer$Document"))) ({ frames := 4, cells := 0, slots := 0, locals := 86 }) (va_Pc [.ref r0] (fun U => U.heap = H0 ∧ jX B base G0 [] H0 ∧ jG dC dI ca base U ∧ jK7 dC dI ca base U ∧ G0 r0 = some (13, 0) ∧ G0 op = some (1, 1) ∧ G0 wt_ = some (1, 2) ∧ jP (dC, dI) G0 H0 [(r0, 13, 7, .ref op), (op, 1, 2, .int sz), (r0, 13, 8, .ref wt_), (wt_, 1, 2, .int wz)] ∧ jIs (dC, dI) G0 H0 [(jFl, jLs dC dI ca G0 3 none wl), (jFkd, jKD dC dI ca G0 none kq), (jFqd, jQD dC dI ca G0 none qq)] ∧ jcZ G0 s0 tq kq wl ho us rw qq ib S9 Z9)) (jQx (S := Unit) (fun v u => jRn G0 3 0 v ∧ v = jdRf wl (jwNx S9 Z9)) (fun u t => (jRt (dC, dI) B base G0 EX11_nextToCheckT H0 [] t.heap) ∧ jIs (dC, dI) G0 t.heap [(jFl, jLs dC dI ca G0 3 none wl), (jFkd, jKD dC dI ca G0 none kq), (jFqd, jQD dC dI ca G0 none qq)]) (jA base)) 0 0 (jA base) := by
  refine Met.ofW (cc := cX11_nextToCheck) (maxL := 4) (ret := (some (.object "ProofServer$Document"))) (by decide) rfl ?_
  intro p e s m args below meth c s₁ Bd hml hv
  obtain ⟨rfl, hH0, hX, hG, hK7, hg_r0, hg_op, hg_wt_, hP0, hI0, hp0⟩ := hv
  have hK := hG.1
  have hx := Bd.exec
  have hb := Bd.bytes
  have hr := Bd.returns
  have hts := atoms_spec (ws := (jw yX11_nextToCheck cX11_nextToCheck 4 (some (.object "ProofServer$Document")))) Bd.pre
  have htw : ∀ w ∈ jWl, w.before _ s = true := fun w h => hts w (List.mem_cons_of_mem _ h)
  have hown : s.vm.findClass RX11 = some m.cls := findClass_of_methodNamed Bd.named
  have hlocks := Bd.notSynchronized
  obtain ⟨Q, hQ⟩ : ∃ Q, Q = MQ below (jQx (S := Unit) (fun v u => jRn G0 3 0 v ∧ v = jdRf wl (jwNx S9 Z9)) (fun u t => (jRt (dC, dI) B base G0 EX11_nextToCheckT H0 [] t.heap) ∧ jIs (dC, dI) G0 t.heap [(jFl, jLs dC dI ca G0 3 none wl), (jFkd, jKD dC dI ca G0 none kq), (jFqd, jQD dC dI ca G0 none qq)]) (jA base)) ([.ref r0] : List Value).toArray s 0 0 (jA base) := ⟨_, rfl⟩
  rw [← hQ]
  have hl := lv_entry ([.ref r0]) (n := 4) (Nat.le_of_ble_eq_true rfl)
  rw [lg_entry_eq]
  generalize (lg_sl ([.ref r0]) ++ List.replicate (4 - (lg_sl ([.ref r0])).length) Slot.unset).toArray = ls at hl ⊢
  have hl : lv_has ls 4 [(0, .ref r0)] := hl
  generalize hR : (headSpec (jw yX11_nextToCheck cX11_nextToCheck 4 (some (.object "ProofServer$Document"))) ({ frames := 4, cells := 0, slots := 0, locals := 86 })).room = R
  subst hH0
  have hh : jSt (dC, dI) B base G0 G0 EX11_nextToCheckT s.heap 0 0 [(r0, 13, 7, .ref op), (op, 1, 2, .int sz), (r0, 13, 8, .ref wt_), (wt_, 1, 2, .int wz)] [] [(jFl, jLs dC dI ca G0 3 none wl), (jFkd, jKD dC dI ca G0 none kq), (jFqd, jQD dC dI ca G0 none qq)] s.heap [] := jSt.start hX hP0 jMc.nil hI0
  clear hX hP0
  have hk0 : (0 : Int32).toInt = 0 := by decide
  have hk1 : (1 : Int32).toInt = 1 := by decide
  have hly_3_4 := htw (u_lay RX1 TX1 4) (jWc_wsX10 _ (u_in_lay (by decide)))
  have hly_3_10 := htw (u_lay RX1 TX1 10) (jWc_wsX10 _ (u_in_lay (by decide)))
  have hly_3_11 := htw (u_lay RX1 TX1 11) (jWc_wsX10 _ (u_in_lay (by decide)))
  have hly_13_7 := htw (u_lay RX11 TX11 7) (jWc_wsX110 _ (u_in_lay (by decide)))
  have hlk_61 := (htw (.fieldLink RX11 61 "ProofServer" "open" "Ljava/util/List;") (jWr_2 _ (List.mem_of_getElem? (i := 14) rfl)))
  have hlk_567 := (htw (.fieldLink RX11 567 "ProofServer$Document" "checking" "[I") (jWr_43 _ (List.mem_of_getElem? (i := 7) rfl)))
  have hlk_171 := (htw (.fieldLink RX11 171 "ProofServer$Document" "checked" "I") (jWr_35 _ (List.mem_of_getElem? (i := 17) rfl)))
  have hlk_168 := (htw (.fieldLink RX11 168 "ProofServer$Document" "sentences" "I") (jWr_35 _ (List.mem_of_getElem? (i := 4) rfl)))
  have hws : wl.1 = sz.toInt := jLs.sz (hh.iv 0 rfl) hg_op (hh.at 1 rfl)
  have hw3 := hp0.2.2.2.2.2.2.2.2.1
  have hw0 := hp0.1.2.2.2
  refine lv_null hx hb dX11_nextToCheck_0 ?_
  refine j7_nst_n (lv' := [(1, .null), (0, .ref r0)]) hx hb dX11_nextToCheck_1 rfl hl (by decide) rfl (fun ls hl => ?_)
  refine lv_iconst (v := 0) hx hb dX11_nextToCheck_2 (by decide) ?_
  refine lv_istore_n (lv' := [(2, .int 0), (1, .null), (0, .ref r0)]) hx hb dX11_nextToCheck_3 rfl hl (by decide) rfl (fun ls hl => ?_)
  have L4 : ∀ (N : Nat) (v1_1 : Option Nat) (v2_1 : Int32) (H_1 : Heap) (locs_1 : List Loc), jSt (dC, dI) B base G0 G0 EX11_nextToCheckT s.heap 0 0 [(r0, 13, 7, .ref op), (op, 1, 2, .int sz), (r0, 13, 8, .ref wt_), (wt_, 1, 2, .int wz)] [] [(jFl, jLs dC dI ca G0 3 none wl), (jFkd, jKD dC dI ca G0 none kq), (jFqd, jQD dC dI ca G0 none qq)] H_1 locs_1 → jQn 3 0 G0 v1_1 → (0 ≤ v2_1.toInt ∧ v2_1.toInt ≤ sz.toInt ∧ jzN S9 Z9 wl v1_1 v2_1.toInt) → (sz.toInt - v2_1.toInt : Int) < N → ∀ ls : Array Slot, lv_has ls 4 [(0, .ref r0), (1, va_rf v1_1), (2, .int v2_1)] → W p l e R s m ([.ref r0] : List Value).toArray below meth c H_1 locs_1 0 0 Q (F0 m 4 ls []) := by
    intro N
    induction N with
    | zero => intro v1_1 v2_1 H_1 locs_1 hh_1 hq_v1_1 hi_1 hm; exact absurd hm (by omega)
    | succ N L4 =>
      intro v1_1 v2_1 H_1 locs_1 hh_1 hq_v1_1 hi_1 hm_1 ls hl
      obtain ⟨hi_1_0, hi_1_1, hi_1_2⟩ := hi_1
      rcases hq_v1_1 with rfl | ⟨nv_2, rfl, hg_nv_2⟩
      · have hl : lv_has ls 4 [(0, .ref r0), (1, .null), (2, .int v2_1)] := hl
        refine lv_iload_n hx hb dX11_nextToCheck_4 rfl (lv_at hl 2 rfl) ?_
        refine lv_aload_n hx hb dX11_nextToCheck_5 rfl (lv_at hl 0 rfl) ?_
        refine j7_read hx hb hown hK (C := RX11) (T := TX11) (N := 19) rfl hly_13_7 hlk_61 (hh_1.at 0 rfl) dX11_nextToCheck_6 ?_
        refine va_callFi (A0 := jA base) (H0 := s.heap) (va_runF (hK.1 1 _ rfl).2 (As := []) (rest := [.int v2_1]) ⟨hx, hb, hml, hown, hts⟩ (uJx4a65c_size_8abf5 l dC dI ca base B hB hAp hB1 G0 H_1 op 1 sz) (va_cwF 0 hts (jgF (jWr_27 _ (List.mem_of_getElem? (i := 22) rfl)) (jWr_27 _ (List.mem_of_getElem? (i := 23) rfl)) (jWr_28 _ (List.mem_of_getElem? (i := 0) rfl)) (jWr_2 _ (List.mem_of_getElem? (i := 13) rfl)) (jWr_28 _ (List.mem_of_getElem? (i := 1) rfl))) rfl rfl rfl hK7.2.2.2.2.2.1.1 ⟨by decide, by decide, by decide +kernel⟩ ⟨by rw [← hR]; exact Nat.le_of_ble_eq_true rfl, by rw [← hR]; exact Nat.le_of_ble_eq_true rfl⟩) ⟨fun a U g mk q => by obtain ⟨q0, q1, q2, qK, q10, q11, q12⟩ := q; exact ⟨q0, q1, q2, jG.calling g mk a qK, q10, q11, q12⟩, hh_1.recv (C := RJx4a65c) (T := TJx4a65c) (N := 3) hB1 rfl (by decide) hg_op hK, fun U hU hW => ⟨rfl, hU, hh_1.2.1, hG.step hW hU hh_1.1, hg_op, (hh_1.2.2.1.sub (L1 := [(op, 1, 2, .int sz)]) [1] rfl), trivial⟩⟩ rfl rfl hl.1 rfl (lv_room (Nat.le_of_ble_eq_true rfl)) dX11_nextToCheck_9 ⟨Nat.zero_le _, Nat.zero_le _⟩) hh_1.1 (fun q _ h => h) (fun q h => h) (fun r_4 u_3 t_3 H_3 locs_3 ht_3 hvm_3 hr_4 hb_3 hz_3 hk_3 hS_3 => ?_)
        rw [ht_3] at hb_3
        obtain ⟨hb_31, hb_32, hb_33, hb_34, hb_35⟩ := hb_3
        have hh_3 : jSt (dC, dI) B base G0 G0 EX11_nextToCheckT s.heap 0 0 [(r0, 13, 7, .ref op), (op, 1, 2, .int sz), (r0, 13, 8, .ref wt_), (wt_, 1, 2, .int wz)] [] [(jFl, jLs dC dI ca G0 3 none wl), (jFkd, jKD dC dI ca G0 none kq), (jFqd, jQD dC dI ca G0 none qq)] H_3 locs_3 := ((hh_1.call hb_31 hb_32 hb_33 hb_34 hS_3 rfl (L1 := [(r0, 13, 7, .ref op), (op, 1, 2, .int sz), (r0, 13, 8, .ref wt_), (wt_, 1, 2, .int wz)]) [0, 1, 2, 3] rfl rfl (M1 := []) [] rfl rfl (I1 := [(jFl, jLs dC dI ca G0 3 none wl), (jFkd, jKD dC dI ca G0 none kq), (jFqd, jQD dC dI ca G0 none qq)]) [0, 1, 2] rfl rfl).more hb_35)
        clear hh_1 ht_3 hvm_3 hz_3 hk_3 hS_3 hb_31 hb_32 hb_33 hb_34 hb_35
        refine lv_icmp_ge (tgt := 71) hx hb dX11_nextToCheck_14 (by decide) (fun c_5 => ?_) (fun c_5 => ?_)
        · skip
          have c_5' : v2_1.toInt ≥ r_4.toInt := jb_ge (rfl) (rfl) c_5
          refine j7_nld_n hx hb dX11_nextToCheck_71 rfl (lv_at hl 1 rfl) ?_
          rw [hQ]
          exact W.aret (v := .null) hx hb hr (Or.inl ⟨_, rfl⟩) (Or.inl rfl) (fun t ht hW => ⟨⟨.null, (), rfl, ⟨Or.inl rfl, hi_1_2.en (by omega)⟩, ⟨hh_3.rt (M1 := []) [] rfl ht, by rw [ht]; exact hh_3.2.2.2.2.2.2.2.2.sub (L1 := [(jFl, jLs dC dI ca G0 3 none wl), (jFkd, jKD dC dI ca G0 none kq), (jFqd, jQD dC dI ca G0 none qq)]) [0, 1, 2] rfl⟩⟩, by rw [ht]; try exact hh_3.1.1, fun q h9 hq => by rw [ht]; try exact hh_3.1.2.1 q h9 hq⟩) hh_3.1.2.2 dX11_nextToCheck_72
        · skip
          have c_5' : v2_1.toInt < r_4.toInt := jb_ge_n (rfl) (rfl) c_5
          refine lv_aload_n hx hb dX11_nextToCheck_17 rfl (lv_at hl 0 rfl) ?_
          refine j7_read hx hb hown hK (C := RX11) (T := TX11) (N := 19) rfl hly_13_7 hlk_61 (hh_3.at 0 rfl) dX11_nextToCheck_18 ?_
          refine lv_iload_n hx hb dX11_nextToCheck_21 rfl (lv_at hl 2 rfl) ?_
          refine j_callFx (A0 := jA base) (H0 := s.heap) (va_runF (hK.1 1 _ rfl).2 (As := [.int v2_1]) (rest := []) ⟨hx, hb, hml, hown, hts⟩ (uJx4a65c_get_915e3L1 l dC dI ca base B hB hAp hB1 hB3 hB221 G0 H_3 op v2_1 sz wl) (va_cwF 1 hts (jgF (jWr_28 _ (List.mem_of_getElem? (i := 3) rfl)) (jWr_28 _ (List.mem_of_getElem? (i := 4) rfl)) (jWr_28 _ (List.mem_of_getElem? (i := 5) rfl)) (jWr_2 _ (List.mem_of_getElem? (i := 13) rfl)) (jWr_28 _ (List.mem_of_getElem? (i := 6) rfl))) rfl rfl rfl hK7.2.2.2.2.2.1.2.1 ⟨by decide, by decide, by decide +kernel⟩ ⟨by rw [← hR]; exact Nat.le_of_ble_eq_true rfl, by rw [← hR]; exact Nat.le_of_ble_eq_true rfl⟩) ⟨fun a U g mk q => by obtain ⟨q0, q1, q2, qK, q10, q11, q12, q13, q14⟩ := q; exact ⟨q0, q1, q2, jG.calling g mk a qK, (jK7.calling g mk a q10), q11, q12, q13, q14⟩, hh_3.recv (C := RJx4a65c) (T := TJx4a65c) (N := 3) hB1 rfl (by decide) hg_op hK, fun U hU hW => ⟨rfl, hU, hh_3.2.1, hG.step hW hU hh_3.1, (hK7.step hW hU hh_3.1), hg_op, (hh_3.2.2.1.sub (L1 := [(op, 1, 2, .int sz)]) [1] rfl), (hh_3.2.2.2.2.2.2.2.2.sub (L1 := [(jFl, jLs dC dI ca G0 3 none wl)]) [0] rfl), by first | omega | (refine ⟨?_, ?_⟩ <;> (first | omega | rfl | assumption | decide | exact Or.inl rfl | exact Or.inr rfl | (simp only; omega)))⟩⟩ rfl rfl hl.1 rfl (lv_room (Nat.le_of_ble_eq_true rfl)) dX11_nextToCheck_22 ⟨Nat.zero_le _, Nat.zero_le _⟩) hh_3.1 (fun q _ h => h) (fun q h => h) (fun r_7 u_6 t_6 H_6 locs_6 ht_6 hvm_6 hr_7 hb_6 hz_6 hk_6 hS_6 => ?_)
          rw [ht_6] at hb_6
          obtain ⟨hb_6, hbE_6⟩ := hb_6
          obtain ⟨hb_61, hb_62, hb_63, hb_64, hb_65⟩ := hb_6
          have hh_6 : jSt (dC, dI) B base G0 G0 EX11_nextToCheckT s.heap 0 0 [(r0, 13, 7, .ref op), (op, 1, 2, .int sz), (r0, 13, 8, .ref wt_), (wt_, 1, 2, .int wz)] [] [(jFl, jLs dC dI ca G0 3 none wl), (jFkd, jKD dC dI ca G0 none kq), (jFqd, jQD dC dI ca G0 none qq)] H_6 locs_6 := (((hh_3.call hb_61 hb_62 hb_63 hb_64 hS_6 rfl (L1 := [(r0, 13, 7, .ref op), (op, 1, 2, .int sz), (r0, 13, 8, .ref wt_), (wt_, 1, 2, .int wz)]) [0, 1, 2, 3] rfl rfl (M1 := []) [] rfl rfl (I1 := [(jFkd, jKD dC dI ca G0 none kq), (jFqd, jQD dC dI ca G0 none qq)]) [1, 2] rfl rfl).more hb_65)).addIs hbE_6
          clear hh_3 ht_6 hvm_6 hz_6 hk_6 hS_6 hb_61 hb_62 hb_63 hb_64 hb_65
          clear  hbE_6
          obtain ⟨hr_7, hr_7p⟩ := hr_7
          obtain ⟨ret_8, rfl, hg_ret_8⟩ := hr_7
          refine va_castY hx hb hown (htw (.classLink RX11 71 "ProofServer$Document") (jWr_27 _ (List.mem_of_getElem? (i := 20) rfl))) hK7.2.2.1.1.2 (hh_6.recv (C := RX1) (T := TX1) (N := 17) hB3 rfl (by decide) hg_ret_8 hK) dX11_nextToCheck_27 ?_
          refine lv_astore_n (lv' := [(3, .ref ret_8), (0, .ref r0), (1, .null), (2, .int v2_1)]) hx hb dX11_nextToCheck_30 rfl hl (by decide) rfl (fun ls hl => ?_)
          obtain ⟨ysb_9, yse_9, ysc_9, ybh_9, hgsb_9, hgse_9, hgsc_9, hgbh_9, hgP_9, hgM_9, hqbh_9⟩ := jKD.at (ca := ca) (hh_6.iv 1 rfl) hg_ret_8 (fun q => by cases q)
          have hh_10 := ((hh_6.sub (L1 := [(r0, 13, 7, .ref op), (op, 1, 2, .int sz), (r0, 13, 8, .ref wt_), (wt_, 1, 2, .int wz)]) [0, 1, 2, 3] rfl (M1 := []) [] rfl (I1 := [(jFl, jLs dC dI ca G0 3 none wl), (jFkd, jKD dC dI ca G0 none kq), (jFqd, jQD dC dI ca G0 none qq)]) [0, 1, 2] rfl).more (hgP_9.sub (L1 := [(ret_8, 3, 5, .ref ysb_9), (ret_8, 3, 6, .ref yse_9), (ret_8, 3, 7, .ref ysc_9), (ret_8, 3, 9, .ref ybh_9), (ret_8, 3, 4, .int (kq.sn ret_8)), (ret_8, 3, 10, .int (kq.ck ret_8)), (ret_8, 3, 13, .int (kq.lf ret_8)), (ret_8, 3, 11, (kq.cv ret_8)), (ret_8, 3, 12, (kq.fv ret_8))]) [0, 1, 2, 3, 4, 5, 6, 7, 8] rfl)).moreM hgM_9
          clear hh_6
          have hh_11 := hh_10.addI (jQc.ie hqbh_9 hgbh_9 (by decide) (by decide))
          clear hh_10
          refine lv_aload_n hx hb dX11_nextToCheck_31 rfl (lv_at hl 0 rfl) ?_
          have hwf_12 := hh_11.at 7 rfl
          have hh_13 := hh_11.sub (L1 := [(ret_8, 3, 5, .ref ysb_9), (ret_8, 3, 6, .ref yse_9), (ret_8, 3, 7, .ref ysc_9), (ret_8, 3, 9, .ref ybh_9), (ret_8, 3, 4, .int (kq.sn ret_8)), (ret_8, 3, 10, .int (kq.ck ret_8)), (ret_8, 3, 13, .int (kq.lf ret_8)), (ret_8, 3, 12, (kq.fv ret_8)), (r0, 13, 7, .ref op), (op, 1, 2, .int sz), (r0, 13, 8, .ref wt_), (wt_, 1, 2, .int wz)]) [0, 1, 2, 3, 4, 5, 6, 8, 9, 10, 11, 12] rfl (M1 := [(ysb_9, 171, 40, ca 1, (kq.sb ret_8)), (yse_9, 172, 40, ca 1, (kq.se ret_8)), (ysc_9, 176, 40, ca 1, (kq.sc ret_8))]) [0, 1, 2] rfl (I1 := [([(210, 0)], jQc dC dI (ca 6) ybh_9 40 (kq.bh ret_8)), (jFl, jLs dC dI ca G0 3 none wl), (jFkd, jKD dC dI ca G0 none kq), (jFqd, jQD dC dI ca G0 none qq)]) [0, 1, 2, 3] rfl
          clear hh_11
          obtain ⟨v_14, hv_14, hh_15⟩ := hh_13.pin (C := RX1) (T := TX1) (N := 17) hB3 rfl (by decide) hg_ret_8 (i := 11) (by decide) rfl
          clear hh_13
          have hwe32 : (kq.cv ret_8) = v_14 := jf.uniq hwf_12 (hh_15.at 0 rfl)
          clear hwf_12
          rcases hv_14 with rfl | ⟨checking_16, nchecking_16, rfl, hg_checking_16, hn_checking_16⟩
          · refine j7_read hx hb hown hK (C := RX1) (T := TX1) (N := 17) rfl hly_3_11 hlk_567 (hh_15.at 0 rfl) dX11_nextToCheck_32 ?_
            refine lv_ifnonnullN hx hb dX11_nextToCheck_35 ?_
            refine lv_aload_n hx hb dX11_nextToCheck_38 rfl (lv_at hl 0 rfl) ?_
            refine j7_read hx hb hown hK (C := RX1) (T := TX1) (N := 17) rfl hly_3_10 hlk_171 (hh_15.at 6 rfl) dX11_nextToCheck_39 ?_
            refine lv_aload_n hx hb dX11_nextToCheck_42 rfl (lv_at hl 0 rfl) ?_
            refine j7_read hx hb hown hK (C := RX1) (T := TX1) (N := 17) rfl hly_3_4 hlk_168 (hh_15.at 5 rfl) dX11_nextToCheck_43 ?_
            refine lv_icmp_ge (tgt := 65) hx hb dX11_nextToCheck_46 (by decide) (fun c_17 => ?_) (fun c_17 => ?_)
            · skip
              have c_17' : (kq.ck ret_8).toInt ≥ (kq.sn ret_8).toInt := jb_ge (rfl) (rfl) c_17
              obtain ⟨z_18, ez_18⟩ : ∃ y : Int32, y = v2_1 + 1 := ⟨_, rfl⟩
              refine lv_iinc (v := z_18) (lv' := [(2, .int z_18), (3, .ref ret_8), (0, .ref r0), (1, .null)]) hx hb dX11_nextToCheck_65 hl (k := 3) rfl (by rw [ez_18]; rfl) (by decide) rfl (fun ls hl => ?_)
              have hz_18 : z_18.toInt = v2_1.toInt + 1 := by rw [ez_18]; exact jb_iadd2 (rfl) (by decide) (by omega)
              refine lv_goto (tgt := 4) hx hb dX11_nextToCheck_68 (by decide) ?_
              exact L4 none z_18 _ _ (hh_15.sub (L1 := [(r0, 13, 7, .ref op), (op, 1, 2, .int sz), (r0, 13, 8, .ref wt_), (wt_, 1, 2, .int wz)]) [9, 10, 11, 12] rfl (M1 := []) [] rfl (I1 := [(jFl, jLs dC dI ca G0 3 none wl), (jFkd, jKD dC dI ca G0 none kq), (jFqd, jQD dC dI ca G0 none qq)]) [1, 2, 3] rfl) (Or.inl rfl) (⟨by omega, by omega, hi_1_2.bu hp0 (by omega) (by omega) (jdAt hr_7p) (Or.inr (by omega)) (by omega)⟩) (by omega) _ (lv_sub hl [2, 3, 0] rfl)
            · skip
              have c_17' : (kq.ck ret_8).toInt < (kq.sn ret_8).toInt := jb_ge_n (rfl) (rfl) c_17
              refine lv_aload_n hx hb dX11_nextToCheck_49 rfl (lv_at hl 1 rfl) ?_
              refine lv_aload_n hx hb dX11_nextToCheck_50 rfl (lv_at hl 0 rfl) ?_
              refine va_calli (A0 := jA base) (H0 := s.heap) (va_runV (As := [.ref ret_8]) (rest := []) ⟨hx, hb, hml, hown, hts⟩ (uX11_isAskedAboutT l dC dI ca base B hB hAp hB1 hB3 hB10 hB13 hB222 G0 H_6 r0 ret_8 wt_ wz wl qq) (cwV 1 hts (jgV (jWr_76 _ (List.mem_of_getElem? (i := 23) rfl)) (jWr_77 _ (List.mem_of_getElem? (i := 0) rfl)) (jWr_77 _ (List.mem_of_getElem? (i := 1) rfl)) (jWr_1 _ (List.mem_of_getElem? (i := 2) rfl)) (jWr_77 _ (List.mem_of_getElem? (i := 2) rfl))) rfl rfl rfl (by decide +kernel) ⟨by rw [← hR]; exact Nat.le_of_ble_eq_true rfl, by rw [← hR]; exact Nat.le_of_ble_eq_true rfl⟩) ⟨fun a U g mk q => by obtain ⟨q0, q1, q2, qK, q10, q11, q12, q13, q14, q15, q16⟩ := q; exact ⟨q0, q1, q2, jG.calling g mk a qK, (jK7.calling g mk a q10), q11, q12, q13, q14, q15, q16⟩, hh_15.recv (C := RX11) (T := TX11) (N := 19) hB13 rfl (by decide) hg_r0 hK, fun U hU hW => ⟨rfl, hU, hh_15.2.1, hG.step hW hU hh_15.1, (hK7.step hW hU hh_15.1), hg_r0, hg_ret_8, hg_wt_, (hh_15.2.2.1.sub (L1 := [(r0, 13, 8, .ref wt_), (wt_, 1, 2, .int wz)]) [11, 12] rfl), (hh_15.2.2.2.2.2.2.2.2.sub (L1 := [(jFl, jLs dC dI ca G0 3 none wl), (jFqd, jQD dC dI ca G0 none qq)]) [1, 3] rfl), trivial⟩⟩ rfl rfl hl.1 rfl (lv_room (Nat.le_of_ble_eq_true rfl)) dX11_nextToCheck_51 ⟨Nat.zero_le _, Nat.zero_le _⟩) hh_15.1 (fun q _ h => h) (fun q h => h) (fun r_20 u_19 t_19 H_19 locs_19 ht_19 hvm_19 hr_20 hb_19 hz_19 hk_19 hS_19 => ?_)
              rw [ht_19] at hb_19
              obtain ⟨hb_19, hbE_19⟩ := hb_19
              obtain ⟨hb_191, hb_192, hb_193, hb_194, hb_195⟩ := hb_19
              have hh_19 : jSt (dC, dI) B base G0 G0 EX11_nextToCheckT s.heap 0 0 [(ret_8, 3, 11, .null), (ret_8, 3, 5, .ref ysb_9), (ret_8, 3, 6, .ref yse_9), (ret_8, 3, 7, .ref ysc_9), (ret_8, 3, 9, .ref ybh_9), (ret_8, 3, 4, .int (kq.sn ret_8)), (ret_8, 3, 10, .int (kq.ck ret_8)), (ret_8, 3, 13, .int (kq.lf ret_8)), (ret_8, 3, 12, (kq.fv ret_8)), (r0, 13, 7, .ref op), (op, 1, 2, .int sz), (r0, 13, 8, .ref wt_), (wt_, 1, 2, .int wz)] [(ysb_9, 171, 40, ca 1, (kq.sb ret_8)), (yse_9, 172, 40, ca 1, (kq.se ret_8)), (ysc_9, 176, 40, ca 1, (kq.sc ret_8))] [(jFl, jLs dC dI ca G0 3 none wl), (jFqd, jQD dC dI ca G0 none qq), ([(210, 0)], jQc dC dI (ca 6) ybh_9 40 (kq.bh ret_8)), (jFkd, jKD dC dI ca G0 none kq)] H_19 locs_19 := (((hh_15.call hb_191 hb_192 hb_193 hb_194 hS_19 rfl (L1 := [(ret_8, 3, 11, .null), (ret_8, 3, 5, .ref ysb_9), (ret_8, 3, 6, .ref yse_9), (ret_8, 3, 7, .ref ysc_9), (ret_8, 3, 9, .ref ybh_9), (ret_8, 3, 4, .int (kq.sn ret_8)), (ret_8, 3, 10, .int (kq.ck ret_8)), (ret_8, 3, 13, .int (kq.lf ret_8)), (ret_8, 3, 12, (kq.fv ret_8)), (r0, 13, 7, .ref op), (op, 1, 2, .int sz), (r0, 13, 8, .ref wt_), (wt_, 1, 2, .int wz)]) [0, 1, 2, 3, 4, 5, 6, 7, 8, 9, 10, 11, 12] rfl rfl (M1 := [(ysb_9, 171, 40, ca 1, (kq.sb ret_8)), (yse_9, 172, 40, ca 1, (kq.se ret_8)), (ysc_9, 176, 40, ca 1, (kq.sc ret_8))]) [0, 1, 2] rfl rfl (I1 := [([(210, 0)], jQc dC dI (ca 6) ybh_9 40 (kq.bh ret_8)), (jFkd, jKD dC dI ca G0 none kq)]) [0, 2] rfl rfl).more hb_195)).addIs hbE_19
              clear hh_15 ht_19 hvm_19 hz_19 hk_19 hS_19 hb_191 hb_192 hb_193 hb_194 hb_195
              clear  hbE_19
              obtain ⟨hr_20b, hr_20p⟩ := hr_20
              have has9 := hr_20p
              have hr_20' := jb_01 hr_20b
              refine lv_if_eq (tgt := 59) hx hb dX11_nextToCheck_54 (by decide) (fun c_21 => ?_) (fun c_21 => ?_)
              · skip
                have c_21' : r_20.toInt = 0 := jb_eq (rfl) ((by decide)) c_21
                first | (have hr_20pq := hr_20p.resolve_left (by omega); clear hr_20p) | (have hr_20pq := hr_20p.resolve_right (by omega); clear hr_20p) | try clear hr_20p
                refine j7_nld_n hx hb dX11_nextToCheck_59 rfl (lv_at hl 2 rfl) ?_
                refine lv_ifnonnullN hx hb dX11_nextToCheck_60 ?_
                refine lv_aload_n hx hb dX11_nextToCheck_63 rfl (lv_at hl 0 rfl) ?_
                refine lv_astore_n (lv' := [(1, .ref ret_8), (3, .ref ret_8), (0, .ref r0), (2, .int v2_1)]) hx hb dX11_nextToCheck_64 rfl hl (by decide) rfl (fun ls hl => ?_)
                obtain ⟨z_22, ez_22⟩ : ∃ y : Int32, y = v2_1 + 1 := ⟨_, rfl⟩
                refine lv_iinc (v := z_22) (lv' := [(2, .int z_22), (1, .ref ret_8), (3, .ref ret_8), (0, .ref r0)]) hx hb dX11_nextToCheck_65 hl (k := 3) rfl (by rw [ez_22]; rfl) (by decide) rfl (fun ls hl => ?_)
                have hz_22 : z_22.toInt = v2_1.toInt + 1 := by rw [ez_22]; exact jb_iadd2 (rfl) (by decide) (by omega)
                refine lv_goto (tgt := 4) hx hb dX11_nextToCheck_68 (by decide) ?_
                exact L4 (some ret_8) z_22 _ _ (hh_19.sub (L1 := [(r0, 13, 7, .ref op), (op, 1, 2, .int sz), (r0, 13, 8, .ref wt_), (wt_, 1, 2, .int wz)]) [9, 10, 11, 12] rfl (M1 := []) [] rfl (I1 := [(jFl, jLs dC dI ca G0 3 none wl), (jFkd, jKD dC dI ca G0 none kq), (jFqd, jQD dC dI ca G0 none qq)]) [0, 3, 1] rfl) (Or.inr ⟨_, rfl, hg_ret_8⟩) (⟨by omega, by omega, (hi_1_2.fi hp0 (by omega) (by omega) (jdAt hr_7p) hwe32 (by omega) (has9.resolve_left (fun q => by have q1 := q.1; omega)).2 (by omega)).1 rfl⟩) (by omega) _ (lv_sub hl [3, 1, 0] rfl)
              · skip
                have c_21' : r_20.toInt ≠ 0 := jb_eq_n (rfl) ((by decide)) c_21
                first | (have hr_20pq := hr_20p.resolve_left (by omega); clear hr_20p) | (have hr_20pq := hr_20p.resolve_right (by omega); clear hr_20p) | try clear hr_20p
                refine lv_aload_n hx hb dX11_nextToCheck_57 rfl (lv_at hl 0 rfl) ?_
                rw [hQ]
                exact W.aret (v := .ref ret_8) hx hb hr (Or.inl ⟨_, rfl⟩) (Or.inr ⟨_, rfl⟩) (fun t ht hW => ⟨⟨.ref ret_8, (), rfl, ⟨Or.inr ⟨_, rfl, hg_ret_8⟩, hi_1_2.as hp0 (by omega) (by omega) (jdAt hr_7p) hwe32 (by omega) (has9.resolve_right (fun q => by have q1 := q.1; omega)).2⟩, ⟨hh_19.rt (M1 := []) [] rfl ht, by rw [ht]; exact hh_19.2.2.2.2.2.2.2.2.sub (L1 := [(jFl, jLs dC dI ca G0 3 none wl), (jFkd, jKD dC dI ca G0 none kq), (jFqd, jQD dC dI ca G0 none qq)]) [0, 3, 1] rfl⟩⟩, by rw [ht]; try exact hh_19.1.1, fun q h9 hq => by rw [ht]; try exact hh_19.1.2.1 q h9 hq⟩) hh_19.1.2.2 dX11_nextToCheck_58
          · refine j7_read hx hb hown hK (C := RX1) (T := TX1) (N := 17) rfl hly_3_11 hlk_567 (hh_15.at 0 rfl) dX11_nextToCheck_32 ?_
            refine lv_ifnonnull (tgt := 65) hx hb dX11_nextToCheck_35 (by decide) ?_
            obtain ⟨z_23, ez_23⟩ : ∃ y : Int32, y = v2_1 + 1 := ⟨_, rfl⟩
            refine lv_iinc (v := z_23) (lv' := [(2, .int z_23), (3, .ref ret_8), (0, .ref r0), (1, .null)]) hx hb dX11_nextToCheck_65 hl (k := 3) rfl (by rw [ez_23]; rfl) (by decide) rfl (fun ls hl => ?_)
            have hz_23 : z_23.toInt = v2_1.toInt + 1 := by rw [ez_23]; exact jb_iadd2 (rfl) (by decide) (by omega)
            refine lv_goto (tgt := 4) hx hb dX11_nextToCheck_68 (by decide) ?_
            exact L4 none z_23 _ _ (hh_15.sub (L1 := [(r0, 13, 7, .ref op), (op, 1, 2, .int sz), (r0, 13, 8, .ref wt_), (wt_, 1, 2, .int wz)]) [9, 10, 11, 12] rfl (M1 := []) [] rfl (I1 := [(jFl, jLs dC dI ca G0 3 none wl), (jFkd, jKD dC dI ca G0 none kq), (jFqd, jQD dC dI ca G0 none qq)]) [1, 2, 3] rfl) (Or.inl rfl) (⟨by omega, by omega, hi_1_2.bu hp0 (by omega) (by omega) (jdAt hr_7p) (Or.inl (by rw [hwe32]; exact fun q => by cases q)) (by omega)⟩) (by omega) _ (lv_sub hl [2, 3, 0] rfl)
      · have hl : lv_has ls 4 [(0, .ref r0), (1, .ref nv_2), (2, .int v2_1)] := hl
        refine lv_iload_n hx hb dX11_nextToCheck_4 rfl (lv_at hl 2 rfl) ?_
        refine lv_aload_n hx hb dX11_nextToCheck_5 rfl (lv_at hl 0 rfl) ?_
        refine j7_read hx hb hown hK (C := RX11) (T := TX11) (N := 19) rfl hly_13_7 hlk_61 (hh_1.at 0 rfl) dX11_nextToCheck_6 ?_
        refine va_callFi (A0 := jA base) (H0 := s.heap) (va_runF (hK.1 1 _ rfl).2 (As := []) (rest := [.int v2_1]) ⟨hx, hb, hml, hown, hts⟩ (uJx4a65c_size_8abf5 l dC dI ca base B hB hAp hB1 G0 H_1 op 1 sz) (va_cwF 0 hts (jgF (jWr_27 _ (List.mem_of_getElem? (i := 22) rfl)) (jWr_27 _ (List.mem_of_getElem? (i := 23) rfl)) (jWr_28 _ (List.mem_of_getElem? (i := 0) rfl)) (jWr_2 _ (List.mem_of_getElem? (i := 13) rfl)) (jWr_28 _ (List.mem_of_getElem? (i := 1) rfl))) rfl rfl rfl hK7.2.2.2.2.2.1.1 ⟨by decide, by decide, by decide +kernel⟩ ⟨by rw [← hR]; exact Nat.le_of_ble_eq_true rfl, by rw [← hR]; exact Nat.le_of_ble_eq_true rfl⟩) ⟨fun a U g mk q => by obtain ⟨q0, q1, q2, qK, q10, q11, q12⟩ := q; exact ⟨q0, q1, q2, jG.calling g mk a qK, q10, q11, q12⟩, hh_1.recv (C := RJx4a65c) (T := TJx4a65c) (N := 3) hB1 rfl (by decide) hg_op hK, fun U hU hW => ⟨rfl, hU, hh_1.2.1, hG.step hW hU hh_1.1, hg_op, (hh_1.2.2.1.sub (L1 := [(op, 1, 2, .int sz)]) [1] rfl), trivial⟩⟩ rfl rfl hl.1 rfl (lv_room (Nat.le_of_ble_eq_true rfl)) dX11_nextToCheck_9 ⟨Nat.zero_le _, Nat.zero_le _⟩) hh_1.1 (fun q _ h => h) (fun q h => h) (fun r_25 u_24 t_24 H_24 locs_24 ht_24 hvm_24 hr_25 hb_24 hz_24 hk_24 hS_24 => ?_)
        rw [ht_24] at hb_24
        obtain ⟨hb_241, hb_242, hb_243, hb_244, hb_245⟩ := hb_24
        have hh_24 : jSt (dC, dI) B base G0 G0 EX11_nextToCheckT s.heap 0 0 [(r0, 13, 7, .ref op), (op, 1, 2, .int sz), (r0, 13, 8, .ref wt_), (wt_, 1, 2, .int wz)] [] [(jFl, jLs dC dI ca G0 3 none wl), (jFkd, jKD dC dI ca G0 none kq), (jFqd, jQD dC dI ca G0 none qq)] H_24 locs_24 := ((hh_1.call hb_241 hb_242 hb_243 hb_244 hS_24 rfl (L1 := [(r0, 13, 7, .ref op), (op, 1, 2, .int sz), (r0, 13, 8, .ref wt_), (wt_, 1, 2, .int wz)]) [0, 1, 2, 3] rfl rfl (M1 := []) [] rfl rfl (I1 := [(jFl, jLs dC dI ca G0 3 none wl), (jFkd, jKD dC dI ca G0 none kq), (jFqd, jQD dC dI ca G0 none qq)]) [0, 1, 2] rfl rfl).more hb_245)
        clear hh_1 ht_24 hvm_24 hz_24 hk_24 hS_24 hb_241 hb_242 hb_243 hb_244 hb_245
        refine lv_icmp_ge (tgt := 71) hx hb dX11_nextToCheck_14 (by decide) (fun c_26 => ?_) (fun c_26 => ?_)
        · skip
          have c_26' : v2_1.toInt ≥ r_25.toInt := jb_ge (rfl) (rfl) c_26
          refine lv_aload_n hx hb dX11_nextToCheck_71 rfl (lv_at hl 1 rfl) ?_
          rw [hQ]
          exact W.aret (v := .ref nv_2) hx hb hr (Or.inl ⟨_, rfl⟩) (Or.inr ⟨_, rfl⟩) (fun t ht hW => ⟨⟨.ref nv_2, (), rfl, ⟨Or.inr ⟨_, rfl, hg_nv_2⟩, hi_1_2.en (by omega)⟩, ⟨hh_24.rt (M1 := []) [] rfl ht, by rw [ht]; exact hh_24.2.2.2.2.2.2.2.2.sub (L1 := [(jFl, jLs dC dI ca G0 3 none wl), (jFkd, jKD dC dI ca G0 none kq), (jFqd, jQD dC dI ca G0 none qq)]) [0, 1, 2] rfl⟩⟩, by rw [ht]; try exact hh_24.1.1, fun q h9 hq => by rw [ht]; try exact hh_24.1.2.1 q h9 hq⟩) hh_24.1.2.2 dX11_nextToCheck_72
        · skip
          have c_26' : v2_1.toInt < r_25.toInt := jb_ge_n (rfl) (rfl) c_26
          refine lv_aload_n hx hb dX11_nextToCheck_17 rfl (lv_at hl 0 rfl) ?_
          refine j7_read hx hb hown hK (C := RX11) (T := TX11) (N := 19) rfl hly_13_7 hlk_61 (hh_24.at 0 rfl) dX11_nextToCheck_18 ?_
          refine lv_iload_n hx hb dX11_nextToCheck_21 rfl (lv_at hl 2 rfl) ?_
          refine j_callFx (A0 := jA base) (H0 := s.heap) (va_runF (hK.1 1 _ rfl).2 (As := [.int v2_1]) (rest := []) ⟨hx, hb, hml, hown, hts⟩ (uJx4a65c_get_915e3L1 l dC dI ca base B hB hAp hB1 hB3 hB221 G0 H_24 op v2_1 sz wl) (va_cwF 1 hts (jgF (jWr_28 _ (List.mem_of_getElem? (i := 3) rfl)) (jWr_28 _ (List.mem_of_getElem? (i := 4) rfl)) (jWr_28 _ (List.mem_of_getElem? (i := 5) rfl)) (jWr_2 _ (List.mem_of_getElem? (i := 13) rfl)) (jWr_28 _ (List.mem_of_getElem? (i := 6) rfl))) rfl rfl rfl hK7.2.2.2.2.2.1.2.1 ⟨by decide, by decide, by decide +kernel⟩ ⟨by rw [← hR]; exact Nat.le_of_ble_eq_true rfl, by rw [← hR]; exact Nat.le_of_ble_eq_true rfl⟩) ⟨fun a U g mk q => by obtain ⟨q0, q1, q2, qK, q10, q11, q12, q13, q14⟩ := q; exact ⟨q0, q1, q2, jG.calling g mk a qK, (jK7.calling g mk a q10), q11, q12, q13, q14⟩, hh_24.recv (C := RJx4a65c) (T := TJx4a65c) (N := 3) hB1 rfl (by decide) hg_op hK, fun U hU hW => ⟨rfl, hU, hh_24.2.1, hG.step hW hU hh_24.1, (hK7.step hW hU hh_24.1), hg_op, (hh_24.2.2.1.sub (L1 := [(op, 1, 2, .int sz)]) [1] rfl), (hh_24.2.2.2.2.2.2.2.2.sub (L1 := [(jFl, jLs dC dI ca G0 3 none wl)]) [0] rfl), by first | omega | (refine ⟨?_, ?_⟩ <;> (first | omega | rfl | assumption | decide | exact Or.inl rfl | exact Or.inr rfl | (simp only; omega)))⟩⟩ rfl rfl hl.1 rfl (lv_room (Nat.le_of_ble_eq_true rfl)) dX11_nextToCheck_22 ⟨Nat.zero_le _, Nat.zero_le _⟩) hh_24.1 (fun q _ h => h) (fun q h => h) (fun r_28 u_27 t_27 H_27 locs_27 ht_27 hvm_27 hr_28 hb_27 hz_27 hk_27 hS_27 => ?_)
          rw [ht_27] at hb_27
          obtain ⟨hb_27, hbE_27⟩ := hb_27
          obtain ⟨hb_271, hb_272, hb_273, hb_274, hb_275⟩ := hb_27
          have hh_27 : jSt (dC, dI) B base G0 G0 EX11_nextToCheckT s.heap 0 0 [(r0, 13, 7, .ref op), (op, 1, 2, .int sz), (r0, 13, 8, .ref wt_), (wt_, 1, 2, .int wz)] [] [(jFl, jLs dC dI ca G0 3 none wl), (jFkd, jKD dC dI ca G0 none kq), (jFqd, jQD dC dI ca G0 none qq)] H_27 locs_27 := (((hh_24.call hb_271 hb_272 hb_273 hb_274 hS_27 rfl (L1 := [(r0, 13, 7, .ref op), (op, 1, 2, .int sz), (r0, 13, 8, .ref wt_), (wt_, 1, 2, .int wz)]) [0, 1, 2, 3] rfl rfl (M1 := []) [] rfl rfl (I1 := [(jFkd, jKD dC dI ca G0 none kq), (jFqd, jQD dC dI ca G0 none qq)]) [1, 2] rfl rfl).more hb_275)).addIs hbE_27
          clear hh_24 ht_27 hvm_27 hz_27 hk_27 hS_27 hb_271 hb_272 hb_273 hb_274 hb_275
          clear  hbE_27
          obtain ⟨hr_28, hr_28p⟩ := hr_28
          obtain ⟨ret_29, rfl, hg_ret_29⟩ := hr_28
          refine va_castY hx hb hown (htw (.classLink RX11 71 "ProofServer$Document") (jWr_27 _ (List.mem_of_getElem? (i := 20) rfl))) hK7.2.2.1.1.2 (hh_27.recv (C := RX1) (T := TX1) (N := 17) hB3 rfl (by decide) hg_ret_29 hK) dX11_nextToCheck_27 ?_
          refine lv_astore_n (lv' := [(3, .ref ret_29), (0, .ref r0), (1, .ref nv_2), (2, .int v2_1)]) hx hb dX11_nextToCheck_30 rfl hl (by decide) rfl (fun ls hl => ?_)
          obtain ⟨ysb_30, yse_30, ysc_30, ybh_30, hgsb_30, hgse_30, hgsc_30, hgbh_30, hgP_30, hgM_30, hqbh_30⟩ := jKD.at (ca := ca) (hh_27.iv 1 rfl) hg_ret_29 (fun q => by cases q)
          have hh_31 := ((hh_27.sub (L1 := [(r0, 13, 7, .ref op), (op, 1, 2, .int sz), (r0, 13, 8, .ref wt_), (wt_, 1, 2, .int wz)]) [0, 1, 2, 3] rfl (M1 := []) [] rfl (I1 := [(jFl, jLs dC dI ca G0 3 none wl), (jFkd, jKD dC dI ca G0 none kq), (jFqd, jQD dC dI ca G0 none qq)]) [0, 1, 2] rfl).more (hgP_30.sub (L1 := [(ret_29, 3, 5, .ref ysb_30), (ret_29, 3, 6, .ref yse_30), (ret_29, 3, 7, .ref ysc_30), (ret_29, 3, 9, .ref ybh_30), (ret_29, 3, 4, .int (kq.sn ret_29)), (ret_29, 3, 10, .int (kq.ck ret_29)), (ret_29, 3, 13, .int (kq.lf ret_29)), (ret_29, 3, 11, (kq.cv ret_29)), (ret_29, 3, 12, (kq.fv ret_29))]) [0, 1, 2, 3, 4, 5, 6, 7, 8] rfl)).moreM hgM_30
          clear hh_27
          have hh_32 := hh_31.addI (jQc.ie hqbh_30 hgbh_30 (by decide) (by decide))
          clear hh_31
          refine lv_aload_n hx hb dX11_nextToCheck_31 rfl (lv_at hl 0 rfl) ?_
          have hwf_33 := hh_32.at 7 rfl
          have hh_34 := hh_32.sub (L1 := [(ret_29, 3, 5, .ref ysb_30), (ret_29, 3, 6, .ref yse_30), (ret_29, 3, 7, .ref ysc_30), (ret_29, 3, 9, .ref ybh_30), (ret_29, 3, 4, .int (kq.sn ret_29)), (ret_29, 3, 10, .int (kq.ck ret_29)), (ret_29, 3, 13, .int (kq.lf ret_29)), (ret_29, 3, 12, (kq.fv ret_29)), (r0, 13, 7, .ref op), (op, 1, 2, .int sz), (r0, 13, 8, .ref wt_), (wt_, 1, 2, .int wz)]) [0, 1, 2, 3, 4, 5, 6, 8, 9, 10, 11, 12] rfl (M1 := [(ysb_30, 171, 40, ca 1, (kq.sb ret_29)), (yse_30, 172, 40, ca 1, (kq.se ret_29)), (ysc_30, 176, 40, ca 1, (kq.sc ret_29))]) [0, 1, 2] rfl (I1 := [([(210, 0)], jQc dC dI (ca 6) ybh_30 40 (kq.bh ret_29)), (jFl, jLs dC dI ca G0 3 none wl), (jFkd, jKD dC dI ca G0 none kq), (jFqd, jQD dC dI ca G0 none qq)]) [0, 1, 2, 3] rfl
          clear hh_32
          obtain ⟨v_35, hv_35, hh_36⟩ := hh_34.pin (C := RX1) (T := TX1) (N := 17) hB3 rfl (by decide) hg_ret_29 (i := 11) (by decide) rfl
          clear hh_34
          have hwe32 : (kq.cv ret_29) = v_35 := jf.uniq hwf_33 (hh_36.at 0 rfl)
          clear hwf_33
          rcases hv_35 with rfl | ⟨checking_37, nchecking_37, rfl, hg_checking_37, hn_checking_37⟩
          · refine j7_read hx hb hown hK (C := RX1) (T := TX1) (N := 17) rfl hly_3_11 hlk_567 (hh_36.at 0 rfl) dX11_nextToCheck_32 ?_
            refine lv_ifnonnullN hx hb dX11_nextToCheck_35 ?_
            refine lv_aload_n hx hb dX11_nextToCheck_38 rfl (lv_at hl 0 rfl) ?_
            refine j7_read hx hb hown hK (C := RX1) (T := TX1) (N := 17) rfl hly_3_10 hlk_171 (hh_36.at 6 rfl) dX11_nextToCheck_39 ?_
            refine lv_aload_n hx hb dX11_nextToCheck_42 rfl (lv_at hl 0 rfl) ?_
            refine j7_read hx hb hown hK (C := RX1) (T := TX1) (N := 17) rfl hly_3_4 hlk_168 (hh_36.at 5 rfl) dX11_nextToCheck_43 ?_
            refine lv_icmp_ge (tgt := 65) hx hb dX11_nextToCheck_46 (by decide) (fun c_38 => ?_) (fun c_38 => ?_)
            · skip
              have c_38' : (kq.ck ret_29).toInt ≥ (kq.sn ret_29).toInt := jb_ge (rfl) (rfl) c_38
              obtain ⟨z_39, ez_39⟩ : ∃ y : Int32, y = v2_1 + 1 := ⟨_, rfl⟩
              refine lv_iinc (v := z_39) (lv' := [(2, .int z_39), (3, .ref ret_29), (0, .ref r0), (1, .ref nv_2)]) hx hb dX11_nextToCheck_65 hl (k := 3) rfl (by rw [ez_39]; rfl) (by decide) rfl (fun ls hl => ?_)
              have hz_39 : z_39.toInt = v2_1.toInt + 1 := by rw [ez_39]; exact jb_iadd2 (rfl) (by decide) (by omega)
              refine lv_goto (tgt := 4) hx hb dX11_nextToCheck_68 (by decide) ?_
              exact L4 (some nv_2) z_39 _ _ (hh_36.sub (L1 := [(r0, 13, 7, .ref op), (op, 1, 2, .int sz), (r0, 13, 8, .ref wt_), (wt_, 1, 2, .int wz)]) [9, 10, 11, 12] rfl (M1 := []) [] rfl (I1 := [(jFl, jLs dC dI ca G0 3 none wl), (jFkd, jKD dC dI ca G0 none kq), (jFqd, jQD dC dI ca G0 none qq)]) [1, 2, 3] rfl) (Or.inr ⟨_, rfl, hg_nv_2⟩) (⟨by omega, by omega, hi_1_2.bu hp0 (by omega) (by omega) (jdAt hr_28p) (Or.inr (by omega)) (by omega)⟩) (by omega) _ (lv_sub hl [2, 3, 0] rfl)
            · skip
              have c_38' : (kq.ck ret_29).toInt < (kq.sn ret_29).toInt := jb_ge_n (rfl) (rfl) c_38
              refine lv_aload_n hx hb dX11_nextToCheck_49 rfl (lv_at hl 1 rfl) ?_
              refine lv_aload_n hx hb dX11_nextToCheck_50 rfl (lv_at hl 0 rfl) ?_
              refine va_calli (A0 := jA base) (H0 := s.heap) (va_runV (As := [.ref ret_29]) (rest := []) ⟨hx, hb, hml, hown, hts⟩ (uX11_isAskedAboutT l dC dI ca base B hB hAp hB1 hB3 hB10 hB13 hB222 G0 H_27 r0 ret_29 wt_ wz wl qq) (cwV 1 hts (jgV (jWr_76 _ (List.mem_of_getElem? (i := 23) rfl)) (jWr_77 _ (List.mem_of_getElem? (i := 0) rfl)) (jWr_77 _ (List.mem_of_getElem? (i := 1) rfl)) (jWr_1 _ (List.mem_of_getElem? (i := 2) rfl)) (jWr_77 _ (List.mem_of_getElem? (i := 2) rfl))) rfl rfl rfl (by decide +kernel) ⟨by rw [← hR]; exact Nat.le_of_ble_eq_true rfl, by rw [← hR]; exact Nat.le_of_ble_eq_true rfl⟩) ⟨fun a U g mk q => by obtain ⟨q0, q1, q2, qK, q10, q11, q12, q13, q14, q15, q16⟩ := q; exact ⟨q0, q1, q2, jG.calling g mk a qK, (jK7.calling g mk a q10), q11, q12, q13, q14, q15, q16⟩, hh_36.recv (C := RX11) (T := TX11) (N := 19) hB13 rfl (by decide) hg_r0 hK, fun U hU hW => ⟨rfl, hU, hh_36.2.1, hG.step hW hU hh_36.1, (hK7.step hW hU hh_36.1), hg_r0, hg_ret_29, hg_wt_, (hh_36.2.2.1.sub (L1 := [(r0, 13, 8, .ref wt_), (wt_, 1, 2, .int wz)]) [11, 12] rfl), (hh_36.2.2.2.2.2.2.2.2.sub (L1 := [(jFl, jLs dC dI ca G0 3 none wl), (jFqd, jQD dC dI ca G0 none qq)]) [1, 3] rfl), trivial⟩⟩ rfl rfl hl.1 rfl (lv_room (Nat.le_of_ble_eq_true rfl)) dX11_nextToCheck_51 ⟨Nat.zero_le _, Nat.zero_le _⟩) hh_36.1 (fun q _ h => h) (fun q h => h) (fun r_41 u_40 t_40 H_40 locs_40 ht_40 hvm_40 hr_41 hb_40 hz_40 hk_40 hS_40 => ?_)
              rw [ht_40] at hb_40
              obtain ⟨hb_40, hbE_40⟩ := hb_40
              obtain ⟨hb_401, hb_402, hb_403, hb_404, hb_405⟩ := hb_40
              have hh_40 : jSt (dC, dI) B base G0 G0 EX11_nextToCheckT s.heap 0 0 [(ret_29, 3, 11, .null), (ret_29, 3, 5, .ref ysb_30), (ret_29, 3, 6, .ref yse_30), (ret_29, 3, 7, .ref ysc_30), (ret_29, 3, 9, .ref ybh_30), (ret_29, 3, 4, .int (kq.sn ret_29)), (ret_29, 3, 10, .int (kq.ck ret_29)), (ret_29, 3, 13, .int (kq.lf ret_29)), (ret_29, 3, 12, (kq.fv ret_29)), (r0, 13, 7, .ref op), (op, 1, 2, .int sz), (r0, 13, 8, .ref wt_), (wt_, 1, 2, .int wz)] [(ysb_30, 171, 40, ca 1, (kq.sb ret_29)), (yse_30, 172, 40, ca 1, (kq.se ret_29)), (ysc_30, 176, 40, ca 1, (kq.sc ret_29))] [(jFl, jLs dC dI ca G0 3 none wl), (jFqd, jQD dC dI ca G0 none qq), ([(210, 0)], jQc dC dI (ca 6) ybh_30 40 (kq.bh ret_29)), (jFkd, jKD dC dI ca G0 none kq)] H_40 locs_40 := (((hh_36.call hb_401 hb_402 hb_403 hb_404 hS_40 rfl (L1 := [(ret_29, 3, 11, .null), (ret_29, 3, 5, .ref ysb_30), (ret_29, 3, 6, .ref yse_30), (ret_29, 3, 7, .ref ysc_30), (ret_29, 3, 9, .ref ybh_30), (ret_29, 3, 4, .int (kq.sn ret_29)), (ret_29, 3, 10, .int (kq.ck ret_29)), (ret_29, 3, 13, .int (kq.lf ret_29)), (ret_29, 3, 12, (kq.fv ret_29)), (r0, 13, 7, .ref op), (op, 1, 2, .int sz), (r0, 13, 8, .ref wt_), (wt_, 1, 2, .int wz)]) [0, 1, 2, 3, 4, 5, 6, 7, 8, 9, 10, 11, 12] rfl rfl (M1 := [(ysb_30, 171, 40, ca 1, (kq.sb ret_29)), (yse_30, 172, 40, ca 1, (kq.se ret_29)), (ysc_30, 176, 40, ca 1, (kq.sc ret_29))]) [0, 1, 2] rfl rfl (I1 := [([(210, 0)], jQc dC dI (ca 6) ybh_30 40 (kq.bh ret_29)), (jFkd, jKD dC dI ca G0 none kq)]) [0, 2] rfl rfl).more hb_405)).addIs hbE_40
              clear hh_36 ht_40 hvm_40 hz_40 hk_40 hS_40 hb_401 hb_402 hb_403 hb_404 hb_405
              clear  hbE_40
              obtain ⟨hr_41b, hr_41p⟩ := hr_41
              have has9 := hr_41p
              have hr_41' := jb_01 hr_41b
              refine lv_if_eq (tgt := 59) hx hb dX11_nextToCheck_54 (by decide) (fun c_42 => ?_) (fun c_42 => ?_)
              · skip
                have c_42' : r_41.toInt = 0 := jb_eq (rfl) ((by decide)) c_42
                first | (have hr_41pq := hr_41p.resolve_left (by omega); clear hr_41p) | (have hr_41pq := hr_41p.resolve_right (by omega); clear hr_41p) | try clear hr_41p
                refine lv_aload_n hx hb dX11_nextToCheck_59 rfl (lv_at hl 2 rfl) ?_
                refine lv_ifnonnull (tgt := 65) hx hb dX11_nextToCheck_60 (by decide) ?_
                obtain ⟨z_43, ez_43⟩ : ∃ y : Int32, y = v2_1 + 1 := ⟨_, rfl⟩
                refine lv_iinc (v := z_43) (lv' := [(2, .int z_43), (3, .ref ret_29), (0, .ref r0), (1, .ref nv_2)]) hx hb dX11_nextToCheck_65 hl (k := 3) rfl (by rw [ez_43]; rfl) (by decide) rfl (fun ls hl => ?_)
                have hz_43 : z_43.toInt = v2_1.toInt + 1 := by rw [ez_43]; exact jb_iadd2 (rfl) (by decide) (by omega)
                refine lv_goto (tgt := 4) hx hb dX11_nextToCheck_68 (by decide) ?_
                exact L4 (some nv_2) z_43 _ _ (hh_40.sub (L1 := [(r0, 13, 7, .ref op), (op, 1, 2, .int sz), (r0, 13, 8, .ref wt_), (wt_, 1, 2, .int wz)]) [9, 10, 11, 12] rfl (M1 := []) [] rfl (I1 := [(jFl, jLs dC dI ca G0 3 none wl), (jFkd, jKD dC dI ca G0 none kq), (jFqd, jQD dC dI ca G0 none qq)]) [0, 3, 1] rfl) (Or.inr ⟨_, rfl, hg_nv_2⟩) (⟨by omega, by omega, (hi_1_2.fi hp0 (by omega) (by omega) (jdAt hr_28p) hwe32 (by omega) (has9.resolve_left (fun q => by have q1 := q.1; omega)).2 (by omega)).2 (fun q => by cases q)⟩) (by omega) _ (lv_sub hl [2, 3, 0] rfl)
              · skip
                have c_42' : r_41.toInt ≠ 0 := jb_eq_n (rfl) ((by decide)) c_42
                first | (have hr_41pq := hr_41p.resolve_left (by omega); clear hr_41p) | (have hr_41pq := hr_41p.resolve_right (by omega); clear hr_41p) | try clear hr_41p
                refine lv_aload_n hx hb dX11_nextToCheck_57 rfl (lv_at hl 0 rfl) ?_
                rw [hQ]
                exact W.aret (v := .ref ret_29) hx hb hr (Or.inl ⟨_, rfl⟩) (Or.inr ⟨_, rfl⟩) (fun t ht hW => ⟨⟨.ref ret_29, (), rfl, ⟨Or.inr ⟨_, rfl, hg_ret_29⟩, hi_1_2.as hp0 (by omega) (by omega) (jdAt hr_28p) hwe32 (by omega) (has9.resolve_right (fun q => by have q1 := q.1; omega)).2⟩, ⟨hh_40.rt (M1 := []) [] rfl ht, by rw [ht]; exact hh_40.2.2.2.2.2.2.2.2.sub (L1 := [(jFl, jLs dC dI ca G0 3 none wl), (jFkd, jKD dC dI ca G0 none kq), (jFqd, jQD dC dI ca G0 none qq)]) [0, 3, 1] rfl⟩⟩, by rw [ht]; try exact hh_40.1.1, fun q h9 hq => by rw [ht]; try exact hh_40.1.2.1 q h9 hq⟩) hh_40.1.2.2 dX11_nextToCheck_58
          · refine j7_read hx hb hown hK (C := RX1) (T := TX1) (N := 17) rfl hly_3_11 hlk_567 (hh_36.at 0 rfl) dX11_nextToCheck_32 ?_
            refine lv_ifnonnull (tgt := 65) hx hb dX11_nextToCheck_35 (by decide) ?_
            obtain ⟨z_44, ez_44⟩ : ∃ y : Int32, y = v2_1 + 1 := ⟨_, rfl⟩
            refine lv_iinc (v := z_44) (lv' := [(2, .int z_44), (3, .ref ret_29), (0, .ref r0), (1, .ref nv_2)]) hx hb dX11_nextToCheck_65 hl (k := 3) rfl (by rw [ez_44]; rfl) (by decide) rfl (fun ls hl => ?_)
            have hz_44 : z_44.toInt = v2_1.toInt + 1 := by rw [ez_44]; exact jb_iadd2 (rfl) (by decide) (by omega)
            refine lv_goto (tgt := 4) hx hb dX11_nextToCheck_68 (by decide) ?_
            exact L4 (some nv_2) z_44 _ _ (hh_36.sub (L1 := [(r0, 13, 7, .ref op), (op, 1, 2, .int sz), (r0, 13, 8, .ref wt_), (wt_, 1, 2, .int wz)]) [9, 10, 11, 12] rfl (M1 := []) [] rfl (I1 := [(jFl, jLs dC dI ca G0 3 none wl), (jFkd, jKD dC dI ca G0 none kq), (jFqd, jQD dC dI ca G0 none qq)]) [1, 2, 3] rfl) (Or.inr ⟨_, rfl, hg_nv_2⟩) (⟨by omega, by omega, hi_1_2.bu hp0 (by omega) (by omega) (jdAt hr_28p) (Or.inl (by rw [hwe32]; exact fun q => by cases q)) (by omega)⟩) (by omega) _ (lv_sub hl [2, 3, 0] rfl)
  exact L4 (sz.toInt - (0 : Int32).toInt : Int).toNat.succ none 0 _ _ hh (Or.inl rfl) (⟨by omega, by omega, jzN.zz hp0 (by omega)⟩) (by omega) _ (lv_sub hl [2, 1, 0] rfl)
end
section
-- p8: hands; the cache
section J9F
variable {G : jT} {s0 : Nat} {t : jDtl} {q : jKg} {w : jWl9} {ho : Nat → Option Nat} {us rw : Nat → List Int} {qq : jRqG} {ib : Nat → List Int} {S : Int × (Int → jdD)} {Z : jwSt}
theorem jcZ.hn {i : Nat} (h : jcZ G s0 t q w ho us rw qq ib S Z) (hi : i < 2) (e : ho i = none) : (Z.2.1 i).1 < 0 := by
  rcases h.2.2.2.1 i hi with ⟨-, e2⟩ | ⟨d1, a1, y, -, -, g4, -⟩
  · rw [e2]; decide
  · rw [e] at g4; cases g4
theorem jcZ.hy {v : Int} {a : Nat} (h : jcZ G s0 t q w ho us rw qq ib S Z) (h0 : 0 ≤ v) (hv : v < 2) (e : some a = ho v.toNat) : 0 ≤ (Z.2.1 0).1 ∨ 0 ≤ (Z.2.1 1).1 ∨ 0 ≤ jwNx S Z := by
  obtain ⟨d, y, -, -, g, -⟩ := h.hs (i := v.toNat) (by omega) e.symm
  have g1 : (Z.2.1 (v.toNat : Nat)).1 = (d : Int) := by rw [g]
  rcases (by omega : v = 0 ∨ v = 1) with rfl | rfl
  · left
    have g2 : (Z.2.1 0).1 = (d : Int) := g1
    omega
  · right; left
    have g2 : (Z.2.1 1).1 = (d : Int) := g1
    omega
theorem jcZ.ny {a : Nat} (_h : jcZ G s0 t q w ho us rw qq ib S Z) (e : Value.ref a = jdRf w (jwNx S Z)) : 0 ≤ jwNx S Z := (jdRf.y e).1
end J9F
section J9G
variable {rw : Nat → List Int} {l : List Nat} {b x : Nat} {v : Int}
theorem jzKp.f (h : ∀ (i x : Nat), (i : Int) < v → l[i]? = some x → rw x ≠ rw b) (hv : (l.length : Int) ≤ v) (hc : 24 ≤ (l.length : Int)) : (l.eraseIdx 0 ++ [b]).map rw = jwKp (l.map rw) (rw b) := by
  unfold jwKp
  rw [if_neg (jzKp.ni h hv), List.length_map, if_pos (by omega), List.map_append]
  congr 1
  cases l with
  | nil => rfl
  | cons y l => rfl
theorem jzKp.m {k z : Nat} (h : z ∈ l.eraseIdx k ++ [b]) : z ∈ l ∨ z = b := by
  rcases List.mem_append.mp h with h | h
  · exact Or.inl (List.mem_of_mem_eraseIdx h)
  · exact Or.inr (List.mem_singleton.mp h)
theorem jzKp.m0 {z : Nat} (h : z ∈ l ++ [b]) : z ∈ l ∨ z = b := by
  rcases List.mem_append.mp h with h | h
  · exact Or.inl h
  · exact Or.inr (List.mem_singleton.mp h)
end J9G
end
