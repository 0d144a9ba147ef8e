def EX14_partK : List (Nat × Nat) := [(14, 5), (190, 0), (191, 0), (192, 0)]
set_option maxHeartbeats 4000000 in
set_option maxRecDepth 20000 in
theorem uX14_partK (l : Launch) (dC : Nat → ClassId) (dI : Nat → Nat → Nat) (ca : Nat → ClassId) (base : Nat) (B : jF) (hB : jBok B) (hAp : jAp (dC, dI)) (hB14 : ∀ n G a H, B 14 n G a H ↔ jOb (dC, dI) 14 11 (F14 n G) a H) (hB101 : ∀ n G a H, B 101 n G a H ↔ jAr (dC, dI) (ca 1) (fun j z => True) n a H) (hB190 : ∀ n G a H, B 190 n G a H ↔ jAr (dC, dI) (ca 1) (fun j z => 0 ≤ z.toInt ∧ z.toInt ≤ 1500) n a H) (hB191 : ∀ n G a H, B 191 n G a H ↔ jAr (dC, dI) (ca 1) (fun j z => 0 ≤ z.toInt ∧ z.toInt ≤ 1500) n a H) (hB192 : ∀ n G a H, B 192 n G a H ↔ jAr (dC, dI) (ca 1) (fun j z => 0 ≤ z.toInt ∧ z.toInt ≤ 2) n a H) (G0 : jT) (H0 : Heap) (r0 : Nat) (yt : Nat) (pz : Int32) (yb : Nat) (ye : Nat) (ft : Nat → Int32) (fb : Nat → Int32) (fe : Nat → Int32) : Met l yX14_part (jw yX14_part cX14_part 6 none) ({ frames := 3, cells := 0, slots := 0, locals := 69 }) (va_Pc [.ref r0] (fun U => U.heap = H0 ∧ jX B base G0 [] H0 ∧ jG dC dI ca base U ∧ G0 r0 = some (14, 0) ∧ G0 yt = some (101, 1500) ∧ G0 yb = some (190, 40) ∧ G0 ye = some (191, 40) ∧ jP (dC, dI) G0 H0 [(r0, 14, 3, .ref yt), (r0, 14, 4, .int pz), (r0, 14, 6, .ref yb), (r0, 14, 7, .ref ye)] ∧ jMc (dC, dI) G0 H0 [(yt, 101, 1500, ca 1, ft), (yb, 190, 40, ca 1, fb), (ye, 191, 40, ca 1, fe)] ∧ 0 ≤ pz.toInt ∧ pz.toInt ≤ 1500)) (va_Qv (S := Int32 × (Nat → Int32) × (Nat → Int32)) (fun u => u.1.toInt = jPar ft pz.toInt ∧ 0 ≤ u.1.toInt ∧ u.1.toInt ≤ 40 ∧ jSrt u.2.1 u.2.2 u.1.toInt pz.toInt) (fun u t => jRt (dC, dI) B base G0 EX14_partK H0 [(r0, 14, 5, .int u.1)] t.heap ∧ jMc (dC, dI) G0 t.heap [(yb, 190, 40, ca 1, u.2.1), (ye, 191, 40, ca 1, u.2.2)]) (jA base)) 0 0 (jA base) := by
  refine Met.ofW (cc := cX14_part) (maxL := 6) (ret := none) (by decide) rfl ?_
  intro p e s m args below meth c s₁ Bd hml hv
  obtain ⟨rfl, hH0, hX, hG, hg_r0, hg_yt, hg_yb, hg_ye, hP0, hM0, hp0, hp1⟩ := hv
  have hK := hG.1
  have hx := Bd.exec
  have hb := Bd.bytes
  have hr := Bd.returns
  have hts := atoms_spec (ws := (jw yX14_part cX14_part 6 none)) Bd.pre
  have htw : ∀ w ∈ jWl, w.before _ s = true := fun w h => hts w (List.mem_cons_of_mem _ h)
  have hown : s.vm.findClass RX14 = some m.cls := findClass_of_methodNamed Bd.named
  have hlocks := Bd.notSynchronized
  obtain ⟨Q, hQ⟩ : ∃ Q, Q = MQ below (va_Qv (S := Int32 × (Nat → Int32) × (Nat → Int32)) (fun u => u.1.toInt = jPar ft pz.toInt ∧ 0 ≤ u.1.toInt ∧ u.1.toInt ≤ 40 ∧ jSrt u.2.1 u.2.2 u.1.toInt pz.toInt) (fun u t => jRt (dC, dI) B base G0 EX14_partK H0 [(r0, 14, 5, .int u.1)] t.heap ∧ jMc (dC, dI) G0 t.heap [(yb, 190, 40, ca 1, u.2.1), (ye, 191, 40, ca 1, u.2.2)]) (jA base)) ([.ref r0] : List Value).toArray s 0 0 (jA base) := ⟨_, rfl⟩
  rw [← hQ]
  have hl := lv_entry ([.ref r0]) (n := 6) (Nat.le_of_ble_eq_true rfl)
  rw [lg_entry_eq]
  generalize (lg_sl ([.ref r0]) ++ List.replicate (6 - (lg_sl ([.ref r0])).length) Slot.unset).toArray = ls at hl ⊢
  have hl : lv_has ls 6 [(0, .ref r0)] := hl
  generalize hR : (headSpec (jw yX14_part cX14_part 6 none) ({ frames := 3, cells := 0, slots := 0, locals := 69 })).room = R
  subst hH0
  have hh : jSt (dC, dI) B base G0 G0 EX14_partK s.heap 0 0 [(r0, 14, 3, .ref yt), (r0, 14, 4, .int pz), (r0, 14, 6, .ref yb), (r0, 14, 7, .ref ye)] [(yt, 101, 1500, ca 1, ft), (yb, 190, 40, ca 1, fb), (ye, 191, 40, ca 1, fe)] [] s.heap [] := jSt.start hX hP0 hM0 jIs.nil
  clear hX hP0
  have hk0 : (0 : Int32).toInt = 0 := by decide
  have hk1 : (1 : Int32).toInt = 1 := by decide
  have hk2 : (2 : Int32).toInt = 2 := by decide
  have hk39 : (39 : Int32).toInt = 39 := by decide
  have hly_14_3 := htw (u_lay RX12 TX12 3) (jWc_wsX120 _ (u_in_lay (by decide)))
  have hly_14_4 := htw (u_lay RX12 TX12 4) (jWc_wsX120 _ (u_in_lay (by decide)))
  have hly_14_5 := htw (u_lay RX12 TX12 5) (jWc_wsX120 _ (u_in_lay (by decide)))
  have hly_14_6 := htw (u_lay RX12 TX12 6) (jWc_wsX120 _ (u_in_lay (by decide)))
  have hly_14_7 := htw (u_lay RX12 TX12 7) (jWc_wsX120 _ (u_in_lay (by decide)))
  have hly_14_8 := htw (u_lay RX12 TX12 8) (jWc_wsX120 _ (u_in_lay (by decide)))
  have hlk_529 := (va_Nw.use (A := ([.ref r0] : List Value).toArray) rfl (hG.2.1 RX14 529 "ProofServerModel$Document" "text" "[I" "ProofServerModel" (List.mem_of_getElem? (i := 1735) (by decide +kernel))))
  have hlk_526 := (va_Nw.use (A := ([.ref r0] : List Value).toArray) rfl (hG.2.1 RX14 526 "ProofServerModel$Document" "units" "I" "ProofServerModel" (List.mem_of_getElem? (i := 1736) (by decide +kernel))))
  have hlk_587 := (va_Nw.use (A := ([.ref r0] : List Value).toArray) rfl (hG.2.1 RX14 587 "ProofServerModel$Document" "sentences" "I" "ProofServerModel" (List.mem_of_getElem? (i := 1737) (by decide +kernel))))
  have hlk_596 := (va_Nw.use (A := ([.ref r0] : List Value).toArray) rfl (hG.2.1 RX14 596 "ProofServerModel$Document" "begin" "[I" "ProofServerModel" (List.mem_of_getElem? (i := 1739) (by decide +kernel))))
  have hlk_599 := (va_Nw.use (A := ([.ref r0] : List Value).toArray) rfl (hG.2.1 RX14 599 "ProofServerModel$Document" "flaw" "[I" "ProofServerModel" (List.mem_of_getElem? (i := 1743) (by decide +kernel))))
  have hlk_594 := (va_Nw.use (A := ([.ref r0] : List Value).toArray) rfl (hG.2.1 RX14 594 "ProofServerModel$Document" "end" "[I" "ProofServerModel" (List.mem_of_getElem? (i := 1741) (by decide +kernel))))
  refine lv_aload_n hx hb dX14_part_0 rfl (lv_at hl 0 rfl) ?_
  refine j7_readN hx hb hown hK (C := RX12) (T := TX12) (N := 11) rfl hly_14_3 hlk_529 (hh.at 0 rfl) dX14_part_1 ?_
  refine lv_astore_n (lv' := [(1, .ref yt), (0, .ref r0)]) hx hb dX14_part_4 rfl hl (by decide) rfl (fun ls hl => ?_)
  refine lv_aload_n hx hb dX14_part_5 rfl (lv_at hl 1 rfl) ?_
  refine j7_readN hx hb hown hK (C := RX12) (T := TX12) (N := 11) rfl hly_14_4 hlk_526 (hh.at 1 rfl) dX14_part_6 ?_
  refine lv_istore_n (lv' := [(2, .int pz), (1, .ref yt), (0, .ref r0)]) hx hb dX14_part_9 rfl hl (by decide) rfl (fun ls hl => ?_)
  refine lv_aload_n hx hb dX14_part_10 rfl (lv_at hl 2 rfl) ?_
  refine lv_iconst (v := 0) hx hb dX14_part_11 (by decide) ?_
  refine j7_putN hx hb hown hK hh hB hAp hB14 (C := RX12) (T := TX12) (N := 11) rfl (by decide) hg_r0 (i := 5) (by decide) hly_14_5 rfl hlk_587 rfl (ty := .int) (v := .int 0) (by decide +kernel) rfl rfl (⟨_, rfl, by omega, by omega⟩) rfl (L1 := [(r0, 14, 3, .ref yt), (r0, 14, 4, .int pz), (r0, 14, 6, .ref yb), (r0, 14, 7, .ref ye)]) [0, 1, 2, 3] rfl rfl rfl dX14_part_12 (fun H_1 locs_1 hh_1 => ?_)
  clear hh
  refine lv_aload_n hx hb dX14_part_15 rfl (lv_at hl 1 rfl) ?_
  refine lv_iconst (v := 0) hx hb dX14_part_16 (by decide) ?_
  refine lv_iload_n hx hb dX14_part_17 rfl (lv_at hl 0 rfl) ?_
  refine va_calli (A0 := jA base) (H0 := s.heap) (va_runS (As := [.ref yt, .int 0, .int pz]) (rest := []) ⟨hx, hb, hml, hown, hts⟩ (uX14_behindGapsK l dC dI ca base B hB hAp hB101 G0 H_1 yt 0 pz 1500 ft) (va_cwS 3 hts (jgS (jWr_57 _ (List.mem_of_getElem? (i := 13) rfl)) (jWr_57 _ (List.mem_of_getElem? (i := 14) rfl)) (jWr_1 _ (List.mem_of_getElem? (i := 5) rfl)) (jWr_57 _ (List.mem_of_getElem? (i := 15) rfl))) rfl rfl rfl (by decide +kernel) ⟨by rw [← hR]; exact Nat.le_of_ble_eq_true rfl, by rw [← hR]; exact Nat.le_of_ble_eq_true rfl⟩) ⟨fun a U g mk q => by obtain ⟨q0, q1, q2, qK, q10, q11, q12, q13⟩ := q; exact ⟨q0, q1, q2, jG.calling g mk a qK, q10, q11, q12, q13⟩, fun U hU hW => ⟨rfl, hU, hh_1.2.1, hG.step hW hU hh_1.1, hg_yt, jP.nil, (hh_1.2.2.2.2.2.2.2.1.sub (L1 := [(yt, 101, 1500, ca 1, ft)]) [0] rfl), by first | omega | (refine ⟨?_, ?_, ?_, ?_⟩ <;> (first | omega | rfl | assumption | decide | exact Or.inl rfl | exact Or.inr rfl | (simp only; omega)))⟩⟩ rfl rfl hl.1 rfl (lv_room (Nat.le_of_ble_eq_true rfl)) dX14_part_18 ⟨Nat.zero_le _, Nat.zero_le _⟩) hh_1.1 (fun q _ h => h) (fun q h => h) (fun r_3 u_2 t_2 H_2 locs_2 ht_2 hvm_2 hr_3 hb_2 hz_2 hk_2 hS_2 => ?_)
  rw [ht_2] at hb_2
  obtain ⟨hb_21, hb_22, hb_23, hb_24, hb_25⟩ := hb_2
  have hh_2 : jSt (dC, dI) B base G0 G0 EX14_partK s.heap 0 0 [(r0, 14, 5, .int 0), (r0, 14, 3, .ref yt), (r0, 14, 4, .int pz), (r0, 14, 6, .ref yb), (r0, 14, 7, .ref ye)] [(yt, 101, 1500, ca 1, ft), (yb, 190, 40, ca 1, fb), (ye, 191, 40, ca 1, fe)] [] H_2 locs_2 := ((hh_1.call hb_21 hb_22 hb_23 hb_24 hS_2 rfl (L1 := [(r0, 14, 5, .int 0), (r0, 14, 3, .ref yt), (r0, 14, 4, .int pz), (r0, 14, 6, .ref yb), (r0, 14, 7, .ref ye)]) [0, 1, 2, 3, 4] rfl rfl (M1 := [(yt, 101, 1500, ca 1, ft), (yb, 190, 40, ca 1, fb), (ye, 191, 40, ca 1, fe)]) [0, 1, 2] rfl rfl (I1 := []) [] rfl rfl).more hb_25)
  clear hh_1 ht_2 hvm_2 hz_2 hk_2 hS_2 hb_21 hb_22 hb_23 hb_24 hb_25
  obtain ⟨hr_3_0, hr_3_1, hr_3_2⟩ := hr_3
  rw [hk0] at hr_3_0
  refine lv_istore_n (lv' := [(3, .int r_3), (2, .int pz), (1, .ref yt), (0, .ref r0)]) hx hb dX14_part_21 rfl hl (by decide) rfl (fun ls hl => ?_)
  have L22 : ∀ (N : Nat) (v3_4 : Int32) (wz_4 : Int32) (fb_4 : Nat → Int32) (fe_4 : Nat → Int32) (kf : Nat) (H_4 : Heap) (locs_4 : List Loc), jSt (dC, dI) B base G0 G0 EX14_partK s.heap 0 0 [(r0, 14, 5, .int wz_4), (r0, 14, 3, .ref yt), (r0, 14, 4, .int pz), (r0, 14, 6, .ref yb), (r0, 14, 7, .ref ye)] [(ye, 191, 40, ca 1, fe_4), (yb, 190, 40, ca 1, fb_4), (yt, 101, 1500, ca 1, ft)] [] H_4 locs_4 → (0 ≤ v3_4.toInt ∧ v3_4.toInt ≤ pz.toInt ∧ 0 ≤ wz_4.toInt ∧ wz_4.toInt ≤ 40 ∧ (v3_4.toInt = pz.toInt ∨ wz_4.toInt ≤ 39) ∧ pz.toInt - v3_4.toInt + 1 < kf ∧ jPn ft pz.toInt kf v3_4.toInt wz_4.toInt = jPar ft pz.toInt ∧ jSrt fb_4 fe_4 wz_4.toInt v3_4.toInt) → (pz.toInt - v3_4.toInt : Int) < N → ∀ ls : Array Slot, lv_has ls 6 [(0, .ref r0), (1, .ref yt), (2, .int pz), (3, .int v3_4)] → W p l e R s m ([.ref r0] : List Value).toArray below meth c H_4 locs_4 0 0 Q (F0 m 22 ls []) := by
    intro N
    induction N with
    | zero => intro v3_4 wz_4 fb_4 fe_4 kf H_4 locs_4 hh_4  hi_4 hm; exact absurd hm (by omega)
    | succ N L22 =>
      intro v3_4 wz_4 fb_4 fe_4 kf H_4 locs_4 hh_4  hi_4 hm_4 ls hl
      obtain ⟨hi_4_0, hi_4_1, hi_4_2, hi_4_3, hi_4_4, hi_4_5, hi_4_6, hi_4_7⟩ := hi_4
      refine lv_iload_n hx hb dX14_part_22 rfl (lv_at hl 3 rfl) ?_
      refine lv_iload_n hx hb dX14_part_23 rfl (lv_at hl 2 rfl) ?_
      refine lv_icmp_ge (tgt := 140) hx hb dX14_part_24 (by decide) (fun c_5 => ?_) (fun c_5 => ?_)
      · skip
        have c_5' : v3_4.toInt ≥ pz.toInt := jb_ge (rfl) (rfl) c_5
        rw [hQ]
        exact W.vret hx hb hr (fun t ht hW => ⟨⟨(wz_4, fb_4, fe_4), rfl, by (try dsimp only); refine ⟨?_, by omega, by omega, ?_⟩; exact (jPn_o (by omega) (by omega) rfl).trans hi_4_6; (have h9 := hi_4_7; exact h9.up (by omega)), ⟨hh_4.rt (M1 := [(r0, 14, 5, .int wz_4)]) [0] rfl ht, by rw [ht]; exact hh_4.2.2.2.2.2.2.2.1.sub [1, 0] rfl⟩⟩, by rw [ht]; try exact hh_4.1.1, fun q h9 hq => by rw [ht]; try exact hh_4.1.2.1 q h9 hq⟩) hh_4.1.2.2 dX14_part_140
      · skip
        have c_5' : v3_4.toInt < pz.toInt := jb_ge_n (rfl) (rfl) c_5
        refine lv_aload_n hx hb dX14_part_27 rfl (lv_at hl 0 rfl) ?_
        refine j7_readN hx hb hown hK (C := RX12) (T := TX12) (N := 11) rfl hly_14_5 hlk_587 (hh_4.at 0 rfl) dX14_part_28 ?_
        refine lv_istore (lv' := [(4, .int wz_4), (0, .ref r0), (1, .ref yt), (2, .int pz), (3, .int v3_4)]) hx hb dX14_part_31 hl (by decide) rfl (fun ls hl => ?_)
        refine lv_aload_n hx hb dX14_part_33 rfl (lv_at hl 1 rfl) ?_
        refine lv_dup hx hb dX14_part_34 rfl ?_
        refine j7_readN hx hb hown hK (C := RX12) (T := TX12) (N := 11) rfl hly_14_5 hlk_587 (hh_4.at 0 rfl) dX14_part_35 ?_
        refine lv_iconst (v := 1) hx hb dX14_part_38 (by decide) ?_
        refine lv_iadd hx hb dX14_part_39 ?_
        refine lv_topi (fun z_6 ez_6 => ?_)
        have hz_6 : z_6.toInt = wz_4.toInt + 1 := by rw [ez_6]; exact jb_iadd2 (rfl) ((by decide)) (by omega)
        refine j7_putN hx hb hown hK hh_4 hB hAp hB14 (C := RX12) (T := TX12) (N := 11) rfl (by decide) hg_r0 (i := 5) (by decide) hly_14_5 rfl hlk_587 rfl (ty := .int) (v := .int z_6) (by decide +kernel) rfl rfl (⟨_, rfl, by omega, by omega⟩) rfl (L1 := [(r0, 14, 3, .ref yt), (r0, 14, 4, .int pz), (r0, 14, 6, .ref yb), (r0, 14, 7, .ref ye)]) [1, 2, 3, 4] rfl rfl rfl dX14_part_40 (fun H_7 locs_7 hh_7 => ?_)
        clear hh_4
        refine lv_aload_n hx hb dX14_part_43 rfl (lv_at hl 1 rfl) ?_
        refine j7_readN hx hb hown hK (C := RX12) (T := TX12) (N := 11) rfl hly_14_6 hlk_596 (hh_7.at 3 rfl) dX14_part_44 ?_
        refine lv_iload hx hb dX14_part_47 (lv_at hl 0 rfl) ?_
        refine lv_iload_n hx hb dX14_part_49 rfl (lv_at hl 4 rfl) ?_
        refine j7_iastU hx hb hK hh_7 hB hB190 1 rfl (by decide) (by decide) rfl 1 rfl (M1 := [(ye, 191, 40, ca 1, fe_4), (yt, 101, 1500, ca 1, ft)]) [0, 2] rfl rfl rfl hg_yb (x := wz_4.toInt) (rfl) (by omega) (by first | omega | (refine ⟨?_, ?_⟩ <;> (first | omega | rfl | assumption | decide | exact Or.inl rfl | exact Or.inr rfl | (simp only; omega)))) dX14_part_50 (fun H_8 locs_8 fs_9 hv_8 ho_8 hh_8 => ?_)
        have hv_8 : jSo fs_9 (wz_4.toInt) = v3_4.toInt := by unfold jSo; rw [hv_8]; try exact rfl
        clear hh_7
        refine lv_aload_n hx hb dX14_part_51 rfl (lv_at hl 2 rfl) ?_
        refine lv_iload_n hx hb dX14_part_52 rfl (lv_at hl 4 rfl) ?_
        refine lv_iload_n hx hb dX14_part_53 rfl (lv_at hl 3 rfl) ?_
        refine va_calli (A0 := jA base) (H0 := s.heap) (va_runS (As := [.ref yt, .int v3_4, .int pz]) (rest := []) ⟨hx, hb, hml, hown, hts⟩ (uX14_sentenceEndK l dC dI ca base B hB hAp hB101 G0 H_8 yt v3_4 pz 1500 ft) (va_cwS 3 hts (jgS (jWr_58 _ (List.mem_of_getElem? (i := 4) rfl)) (jWr_58 _ (List.mem_of_getElem? (i := 5) rfl)) (jWr_1 _ (List.mem_of_getElem? (i := 5) rfl)) (jWr_58 _ (List.mem_of_getElem? (i := 6) rfl))) rfl rfl rfl (by decide +kernel) ⟨by rw [← hR]; exact Nat.le_of_ble_eq_true rfl, by rw [← hR]; exact Nat.le_of_ble_eq_true rfl⟩) ⟨fun a U g mk q => by obtain ⟨q0, q1, q2, qK, q10, q11, q12, q13⟩ := q; exact ⟨q0, q1, q2, jG.calling g mk a qK, q10, q11, q12, q13⟩, fun U hU hW => ⟨rfl, hU, hh_8.2.1, hG.step hW hU hh_8.1, hg_yt, jP.nil, (hh_8.2.2.2.2.2.2.2.1.sub (L1 := [(yt, 101, 1500, ca 1, ft)]) [2] rfl), by first | omega | (refine ⟨?_, ?_, ?_, ?_⟩ <;> (first | omega | rfl | assumption | decide | exact Or.inl rfl | exact Or.inr rfl | (simp only; omega)))⟩⟩ rfl rfl hl.1 rfl (lv_room (Nat.le_of_ble_eq_true rfl)) dX14_part_54 ⟨Nat.zero_le _, Nat.zero_le _⟩) hh_8.1 (fun q _ h => h) (fun q h => h) (fun r_11 u_10 t_10 H_10 locs_10 ht_10 hvm_10 hr_11 hb_10 hz_10 hk_10 hS_10 => ?_)
        rw [ht_10] at hb_10
        obtain ⟨hb_101, hb_102, hb_103, hb_104, hb_105⟩ := hb_10
        have hh_10 : jSt (dC, dI) B base G0 G0 EX14_partK s.heap 0 0 [(r0, 14, 5, .int z_6), (r0, 14, 3, .ref yt), (r0, 14, 4, .int pz), (r0, 14, 6, .ref yb), (r0, 14, 7, .ref ye)] [(yb, 190, 40, ca 1, fs_9), (ye, 191, 40, ca 1, fe_4), (yt, 101, 1500, ca 1, ft)] [] H_10 locs_10 := ((hh_8.call hb_101 hb_102 hb_103 hb_104 hS_10 rfl (L1 := [(r0, 14, 5, .int z_6), (r0, 14, 3, .ref yt), (r0, 14, 4, .int pz), (r0, 14, 6, .ref yb), (r0, 14, 7, .ref ye)]) [0, 1, 2, 3, 4] rfl rfl (M1 := [(yb, 190, 40, ca 1, fs_9), (ye, 191, 40, ca 1, fe_4), (yt, 101, 1500, ca 1, ft)]) [0, 1, 2] rfl rfl (I1 := []) [] rfl rfl).more hb_105)
        clear hh_8 ht_10 hvm_10 hz_10 hk_10 hS_10 hb_101 hb_102 hb_103 hb_104 hb_105
        obtain ⟨hr_11_0, hr_11_1, hr_11_2, hr_11_3⟩ := hr_11
        refine lv_istore (lv' := [(5, .int r_11), (4, .int wz_4), (0, .ref r0), (1, .ref yt), (2, .int pz), (3, .int v3_4)]) hx hb dX14_part_57 hl (by decide) rfl (fun ls hl => ?_)
        refine lv_aload_n hx hb dX14_part_59 rfl (lv_at hl 2 rfl) ?_
        obtain ⟨v_12, hv_12, hh_13⟩ := hh_10.pin (C := RX12) (T := TX12) (N := 11) hB14 rfl (by decide) hg_r0 (i := 8) (by decide) rfl
        clear hh_10
        obtain ⟨flaw_14, rfl, hg_flaw_14⟩ := hv_12
        refine j7_readN hx hb hown hK (C := RX12) (T := TX12) (N := 11) rfl hly_14_8 hlk_599 (hh_13.at 0 rfl) dX14_part_60 ?_
        refine lv_iload hx hb dX14_part_63 (lv_at hl 1 rfl) ?_
        refine lv_iload hx hb dX14_part_65 (lv_at hl 0 rfl) ?_
        have C75 : ∀ (w0_15 : Int32) (H_15 : Heap) (locs_15 : List Loc), jSt (dC, dI) B base G0 G0 EX14_partK s.heap 0 0 [(r0, 14, 8, .ref flaw_14), (r0, 14, 5, .int z_6), (r0, 14, 3, .ref yt), (r0, 14, 4, .int pz), (r0, 14, 6, .ref yb), (r0, 14, 7, .ref ye)] [(yb, 190, 40, ca 1, fs_9), (ye, 191, 40, ca 1, fe_4), (yt, 101, 1500, ca 1, ft)] [] H_15 locs_15 → (w0_15 = 0 ∨ w0_15 = 1) → (0 ≤ w0_15.toInt ∧ w0_15.toInt ≤ 1 ∧ (r_11.toInt = -1 ∨ v3_4.toInt < r_11.toInt)) → ∀ ls : Array Slot, lv_has ls 6 [(0, .ref r0), (1, .ref yt), (2, .int pz), (3, .int v3_4), (4, .int wz_4), (5, .int r_11)] → W p l e R s m ([.ref r0] : List Value).toArray below meth c H_15 locs_15 0 0 Q (F0 m 75 ls [.int w0_15, .int wz_4, .ref flaw_14]) := by
          intro w0_15 H_15 locs_15 hh_15 hb_w0_15 hi_15 ls hl
          obtain ⟨hi_15_0, hi_15_1, hi_15_2⟩ := hi_15
          have hb_w0_15' := jb_01 hb_w0_15
          try clear hr_11_3
          refine j7_iast hx hb hK hh_15 hB hB192 1 rfl (by decide) (by decide) rfl rfl rfl hg_flaw_14 (x := wz_4.toInt) (rfl) (by omega) (by first | omega | (refine ⟨?_, ?_⟩ <;> (first | omega | rfl | assumption | decide | exact Or.inl rfl | exact Or.inr rfl | (simp only; omega)))) dX14_part_75 (fun H_16 locs_16 hh_16 => ?_)
          clear hh_15
          refine lv_aload_n hx hb dX14_part_76 rfl (lv_at hl 0 rfl) ?_
          refine j7_readN hx hb hown hK (C := RX12) (T := TX12) (N := 11) rfl hly_14_7 hlk_594 (hh_16.at 5 rfl) dX14_part_77 ?_
          refine lv_iload hx hb dX14_part_80 (lv_at hl 4 rfl) ?_
          refine lv_iload hx hb dX14_part_82 (lv_at hl 5 rfl) ?_
          have C93 : ∀ (w0_17 : Int32) (H_17 : Heap) (locs_17 : List Loc), jSt (dC, dI) B base G0 G0 EX14_partK s.heap 0 0 [(r0, 14, 8, .ref flaw_14), (r0, 14, 5, .int z_6), (r0, 14, 3, .ref yt), (r0, 14, 4, .int pz), (r0, 14, 6, .ref yb), (r0, 14, 7, .ref ye)] [(yb, 190, 40, ca 1, fs_9), (ye, 191, 40, ca 1, fe_4), (yt, 101, 1500, ca 1, ft)] [] H_17 locs_17 → (w0_17.toInt = jEn ft pz.toInt v3_4.toInt ∧ v3_4.toInt < w0_17.toInt ∧ w0_17.toInt ≤ pz.toInt) → ∀ ls : Array Slot, lv_has ls 6 [(0, .ref r0), (1, .ref yt), (2, .int pz), (3, .int v3_4), (4, .int wz_4), (5, .int r_11)] → W p l e R s m ([.ref r0] : List Value).toArray below meth c H_17 locs_17 0 0 Q (F0 m 93 ls [.int w0_17, .int wz_4, .ref ye]) := by
            intro w0_17 H_17 locs_17 hh_17  hi_17 ls hl
            obtain ⟨hi_17_0, hi_17_1, hi_17_2⟩ := hi_17
            refine j7_iastU hx hb hK hh_17 hB hB191 1 rfl (by decide) (by decide) rfl 1 rfl (M1 := [(yb, 190, 40, ca 1, fs_9), (yt, 101, 1500, ca 1, ft)]) [0, 2] rfl rfl rfl hg_ye (x := wz_4.toInt) (rfl) (by omega) (by first | omega | (refine ⟨?_, ?_⟩ <;> (first | omega | rfl | assumption | decide | exact Or.inl rfl | exact Or.inr rfl | (simp only; omega)))) dX14_part_93 (fun H_18 locs_18 fs_19 hv_18 ho_18 hh_18 => ?_)
            have hv_18 : jSo fs_19 (wz_4.toInt) = w0_17.toInt := by unfold jSo; rw [hv_18]; try exact rfl
            clear hh_17
            refine lv_aload_n hx hb dX14_part_94 rfl (lv_at hl 1 rfl) ?_
            refine lv_aload_n hx hb dX14_part_95 rfl (lv_at hl 0 rfl) ?_
            refine j7_readN hx hb hown hK (C := RX12) (T := TX12) (N := 11) rfl hly_14_7 hlk_594 (hh_18.at 5 rfl) dX14_part_96 ?_
            refine lv_iload hx hb dX14_part_99 (lv_at hl 4 rfl) ?_
            refine j7_ialdM hx hb hK hh_18 hB191 1 rfl (by decide) hg_ye (x := wz_4.toInt) (rfl) (by omega) (j := 0) rfl dX14_part_101 (fun z_20 ez_20 (hz_20 : 0 ≤ z_20.toInt ∧ z_20.toInt ≤ 1500) => ?_)
            have hqz_20 : z_20.toInt = jSo fs_19 (wz_4.toInt) := by unfold jSo; rw [ez_20]
            refine lv_iload_n hx hb dX14_part_102 rfl (lv_at hl 2 rfl) ?_
            refine va_calli (A0 := jA base) (H0 := s.heap) (va_runS (As := [.ref yt, .int z_20, .int pz]) (rest := []) ⟨hx, hb, hml, hown, hts⟩ (uX14_behindGapsK l dC dI ca base B hB hAp hB101 G0 H_18 yt z_20 pz 1500 ft) (va_cwS 3 hts (jgS (jWr_57 _ (List.mem_of_getElem? (i := 13) rfl)) (jWr_57 _ (List.mem_of_getElem? (i := 14) rfl)) (jWr_1 _ (List.mem_of_getElem? (i := 5) rfl)) (jWr_57 _ (List.mem_of_getElem? (i := 15) rfl))) rfl rfl rfl (by decide +kernel) ⟨by rw [← hR]; exact Nat.le_of_ble_eq_true rfl, by rw [← hR]; exact Nat.le_of_ble_eq_true rfl⟩) ⟨fun a U g mk q => by obtain ⟨q0, q1, q2, qK, q10, q11, q12, q13⟩ := q; exact ⟨q0, q1, q2, jG.calling g mk a qK, q10, q11, q12, q13⟩, fun U hU hW => ⟨rfl, hU, hh_18.2.1, hG.step hW hU hh_18.1, hg_yt, jP.nil, (hh_18.2.2.2.2.2.2.2.1.sub (L1 := [(yt, 101, 1500, ca 1, ft)]) [2] rfl), by first | omega | (refine ⟨?_, ?_, ?_, ?_⟩ <;> (first | omega | rfl | assumption | decide | exact Or.inl rfl | exact Or.inr rfl | (simp only; omega)))⟩⟩ rfl rfl hl.1 rfl (lv_room (Nat.le_of_ble_eq_true rfl)) dX14_part_103 ⟨Nat.zero_le _, Nat.zero_le _⟩) hh_18.1 (fun q _ h => h) (fun q h => h) (fun r_22 u_21 t_21 H_21 locs_21 ht_21 hvm_21 hr_22 hb_21 hz_21 hk_21 hS_21 => ?_)
            rw [ht_21] at hb_21
            obtain ⟨hb_211, hb_212, hb_213, hb_214, hb_215⟩ := hb_21
            have hh_21 : jSt (dC, dI) B base G0 G0 EX14_partK s.heap 0 0 [(r0, 14, 8, .ref flaw_14), (r0, 14, 5, .int z_6), (r0, 14, 3, .ref yt), (r0, 14, 4, .int pz), (r0, 14, 6, .ref yb), (r0, 14, 7, .ref ye)] [(ye, 191, 40, ca 1, fs_19), (yb, 190, 40, ca 1, fs_9), (yt, 101, 1500, ca 1, ft)] [] H_21 locs_21 := ((hh_18.call hb_211 hb_212 hb_213 hb_214 hS_21 rfl (L1 := [(r0, 14, 8, .ref flaw_14), (r0, 14, 5, .int z_6), (r0, 14, 3, .ref yt), (r0, 14, 4, .int pz), (r0, 14, 6, .ref yb), (r0, 14, 7, .ref ye)]) [0, 1, 2, 3, 4, 5] rfl rfl (M1 := [(ye, 191, 40, ca 1, fs_19), (yb, 190, 40, ca 1, fs_9), (yt, 101, 1500, ca 1, ft)]) [0, 1, 2] rfl rfl (I1 := []) [] rfl rfl).more hb_215)
            clear hh_18 ht_21 hvm_21 hz_21 hk_21 hS_21 hb_211 hb_212 hb_213 hb_214 hb_215
            obtain ⟨hr_22_0, hr_22_1, hr_22_2⟩ := hr_22
            refine lv_istore_n (lv' := [(3, .int r_22), (0, .ref r0), (1, .ref yt), (2, .int pz), (4, .int wz_4), (5, .int r_11)]) hx hb dX14_part_106 rfl hl (by decide) rfl (fun ls hl => ?_)
            refine lv_iload hx hb dX14_part_107 (lv_at hl 4 rfl) ?_
            refine lv_bipush (v := 39) hx hb dX14_part_109 (by decide) ?_
            refine lv_icmp_ne (tgt := 137) hx hb dX14_part_111 (by decide) (fun c_23 => ?_) (fun c_23 => ?_)
            · skip
              have c_23' : wz_4.toInt ≠ 39 := jb_ne (rfl) ((by decide)) c_23
              refine lv_goto (tgt := 22) hx hb dX14_part_137 (by decide) ?_
              exact L22 r_22 z_6 fs_9 fs_19 (kf - 1) _ _ (hh_21.sub (L1 := [(r0, 14, 5, .int z_6), (r0, 14, 3, .ref yt), (r0, 14, 4, .int pz), (r0, 14, 6, .ref yb), (r0, 14, 7, .ref ye)]) [1, 2, 3, 4, 5] rfl (M1 := [(ye, 191, 40, ca 1, fs_19), (yb, 190, 40, ca 1, fs_9), (yt, 101, 1500, ca 1, ft)]) [0, 1, 2] rfl (I1 := []) [] rfl) (by refine ⟨by omega, by omega, by omega, by omega, by omega, by omega, ?_, ?_⟩; (first | exact (jPn_m (by omega) (by omega) (by omega) (by rw [hr_22_0, hqz_20, hv_18, hi_17_0]) (by omega)).trans hi_4_6 | exact (jPn_l (by omega) (by omega) (by omega) (by omega) (by omega) (by omega)).trans hi_4_6); (first | exact hi_4_7.app (jUpd.mk (n := 40) hv_8 ho_8 rfl (by omega)) (jUpd.mk (n := 40) hv_18 ho_18 rfl (by omega)) (by omega) (by omega) (by omega) (by omega) (by omega) (by omega) | exact hi_4_7.app (jUpd.mk (n := 40) hv_8 ho_8 rfl (by omega)) ((jUpd.mk (n := 40) hv_18 ho_18 rfl (by omega)).two (jUpd.mk (n := 40) (zz_none) (zz_none) rfl (by omega))) (by omega) (by omega) (by omega) (by omega) (by omega) (by omega))) (by omega) _ (lv_sub hl [1, 2, 3, 0] rfl)
            · skip
              have c_23' : wz_4.toInt = 39 := jb_ne_n (rfl) ((by decide)) c_23
              refine lv_iload_n hx hb dX14_part_114 rfl (lv_at hl 0 rfl) ?_
              refine lv_iload_n hx hb dX14_part_115 rfl (lv_at hl 3 rfl) ?_
              refine lv_icmp_ge (tgt := 137) hx hb dX14_part_116 (by decide) (fun c_24 => ?_) (fun c_24 => ?_)
              · skip
                have c_24' : r_22.toInt ≥ pz.toInt := jb_ge (rfl) (rfl) c_24
                refine lv_goto (tgt := 22) hx hb dX14_part_137 (by decide) ?_
                exact L22 r_22 z_6 fs_9 fs_19 (kf - 1) _ _ (hh_21.sub (L1 := [(r0, 14, 5, .int z_6), (r0, 14, 3, .ref yt), (r0, 14, 4, .int pz), (r0, 14, 6, .ref yb), (r0, 14, 7, .ref ye)]) [1, 2, 3, 4, 5] rfl (M1 := [(ye, 191, 40, ca 1, fs_19), (yb, 190, 40, ca 1, fs_9), (yt, 101, 1500, ca 1, ft)]) [0, 1, 2] rfl (I1 := []) [] rfl) (by refine ⟨by omega, by omega, by omega, by omega, by omega, by omega, ?_, ?_⟩; (first | exact (jPn_m (by omega) (by omega) (by omega) (by rw [hr_22_0, hqz_20, hv_18, hi_17_0]) (by omega)).trans hi_4_6 | exact (jPn_l (by omega) (by omega) (by omega) (by omega) (by omega) (by omega)).trans hi_4_6); (first | exact hi_4_7.app (jUpd.mk (n := 40) hv_8 ho_8 rfl (by omega)) (jUpd.mk (n := 40) hv_18 ho_18 rfl (by omega)) (by omega) (by omega) (by omega) (by omega) (by omega) (by omega) | exact hi_4_7.app (jUpd.mk (n := 40) hv_8 ho_8 rfl (by omega)) ((jUpd.mk (n := 40) hv_18 ho_18 rfl (by omega)).two (jUpd.mk (n := 40) (zz_none) (zz_none) rfl (by omega))) (by omega) (by omega) (by omega) (by omega) (by omega) (by omega))) (by omega) _ (lv_sub hl [1, 2, 3, 0] rfl)
              · skip
                have c_24' : r_22.toInt < pz.toInt := jb_ge_n (rfl) (rfl) c_24
                refine lv_aload_n hx hb dX14_part_119 rfl (lv_at hl 1 rfl) ?_
                refine j7_readN hx hb hown hK (C := RX12) (T := TX12) (N := 11) rfl hly_14_8 hlk_599 (hh_21.at 0 rfl) dX14_part_120 ?_
                refine lv_iload hx hb dX14_part_123 (lv_at hl 4 rfl) ?_
                refine lv_iconst (v := 2) hx hb dX14_part_125 (by decide) ?_
                refine j7_iast hx hb hK hh_21 hB hB192 1 rfl (by decide) (by decide) rfl rfl rfl hg_flaw_14 (x := wz_4.toInt) (rfl) (by omega) (by first | omega | (refine ⟨?_, ?_⟩ <;> (first | omega | rfl | assumption | decide | exact Or.inl rfl | exact Or.inr rfl | (simp only; omega)))) dX14_part_126 (fun H_25 locs_25 hh_25 => ?_)
                clear hh_21
                refine lv_aload_n hx hb dX14_part_127 rfl (lv_at hl 1 rfl) ?_
                refine j7_readN hx hb hown hK (C := RX12) (T := TX12) (N := 11) rfl hly_14_7 hlk_594 (hh_25.at 5 rfl) dX14_part_128 ?_
                refine lv_iload hx hb dX14_part_131 (lv_at hl 4 rfl) ?_
                refine lv_iload_n hx hb dX14_part_133 rfl (lv_at hl 3 rfl) ?_
                refine j7_iastU hx hb hK hh_25 hB hB191 1 rfl (by decide) (by decide) rfl 0 rfl (M1 := [(yb, 190, 40, ca 1, fs_9), (yt, 101, 1500, ca 1, ft)]) [1, 2] rfl rfl rfl hg_ye (x := wz_4.toInt) (rfl) (by omega) (by first | omega | (refine ⟨?_, ?_⟩ <;> (first | omega | rfl | assumption | decide | exact Or.inl rfl | exact Or.inr rfl | (simp only; omega)))) dX14_part_134 (fun H_26 locs_26 fs_27 hv_26 ho_26 hh_26 => ?_)
                have hv_26 : jSo fs_27 (wz_4.toInt) = pz.toInt := by unfold jSo; rw [hv_26]; try exact rfl
                clear hh_25
                refine lv_iload_n hx hb dX14_part_135 rfl (lv_at hl 3 rfl) ?_
                refine lv_istore_n (lv' := [(3, .int pz), (0, .ref r0), (1, .ref yt), (2, .int pz), (4, .int wz_4), (5, .int r_11)]) hx hb dX14_part_136 rfl hl (by decide) rfl (fun ls hl => ?_)
                refine lv_goto (tgt := 22) hx hb dX14_part_137 (by decide) ?_
                exact L22 pz z_6 fs_9 fs_27 (kf - 1) _ _ (hh_26.sub (L1 := [(r0, 14, 5, .int z_6), (r0, 14, 3, .ref yt), (r0, 14, 4, .int pz), (r0, 14, 6, .ref yb), (r0, 14, 7, .ref ye)]) [1, 2, 3, 4, 5] rfl (M1 := [(ye, 191, 40, ca 1, fs_27), (yb, 190, 40, ca 1, fs_9), (yt, 101, 1500, ca 1, ft)]) [0, 1, 2] rfl (I1 := []) [] rfl) (by refine ⟨by omega, by omega, by omega, by omega, by omega, by omega, ?_, ?_⟩; (first | exact (jPn_m (by omega) (by omega) (by omega) (by rw [hr_22_0, hqz_20, hv_18, hi_17_0]) (by omega)).trans hi_4_6 | exact (jPn_l (by omega) (by omega) (by omega) (by omega) (by omega) (by omega)).trans hi_4_6); (first | exact hi_4_7.app (jUpd.mk (n := 40) hv_8 ho_8 rfl (by omega)) (jUpd.mk (n := 40) hv_18 ho_18 rfl (by omega)) (by omega) (by omega) (by omega) (by omega) (by omega) (by omega) | exact hi_4_7.app (jUpd.mk (n := 40) hv_8 ho_8 rfl (by omega)) ((jUpd.mk (n := 40) hv_18 ho_18 rfl (by omega)).two (jUpd.mk (n := 40) hv_26 ho_26 rfl (by omega))) (by omega) (by omega) (by omega) (by omega) (by omega) (by omega))) (by omega) _ (lv_sub hl [1, 2, 3, 0] rfl)
          refine lv_if_ge (tgt := 91) hx hb dX14_part_84 (by decide) (fun c_28 => ?_) (fun c_28 => ?_)
          · skip
            have c_28' : r_11.toInt ≥ 0 := jb_ge (rfl) ((by decide)) c_28
            refine lv_iload hx hb dX14_part_91 (lv_at hl 5 rfl) ?_
            exact C93 r_11 _ _ hh_16 (⟨(by first | omega | rfl | assumption | (unfold jEn; rw [if_pos (by omega)]) | (unfold jEn; rw [if_neg (by omega)]; omega)), (by first | omega | rfl | assumption | (unfold jEn; rw [if_pos (by omega)]) | (unfold jEn; rw [if_neg (by omega)]; omega)), (by first | omega | rfl | assumption | (unfold jEn; rw [if_pos (by omega)]) | (unfold jEn; rw [if_neg (by omega)]; omega))⟩) _ (lv_sub hl [0, 1, 2, 3, 4, 5] rfl)
          · skip
            have c_28' : r_11.toInt < 0 := jb_ge_n (rfl) ((by decide)) c_28
            refine lv_iload_n hx hb dX14_part_87 rfl (lv_at hl 2 rfl) ?_
            refine lv_goto (tgt := 93) hx hb dX14_part_88 (by decide) ?_
            exact C93 pz _ _ hh_16 (⟨(by first | omega | rfl | assumption | (unfold jEn; rw [if_pos (by omega)]) | (unfold jEn; rw [if_neg (by omega)]; omega)), (by first | omega | rfl | assumption | (unfold jEn; rw [if_pos (by omega)]) | (unfold jEn; rw [if_neg (by omega)]; omega)), (by first | omega | rfl | assumption | (unfold jEn; rw [if_pos (by omega)]) | (unfold jEn; rw [if_neg (by omega)]; omega))⟩) _ (lv_sub hl [0, 1, 2, 3, 4, 5] rfl)
        refine lv_if_ge (tgt := 74) hx hb dX14_part_67 (by decide) (fun c_29 => ?_) (fun c_29 => ?_)
        · skip
          have c_29' : r_11.toInt ≥ 0 := jb_ge (rfl) ((by decide)) c_29
          first | (have hr_11_3q := hr_11_3.resolve_left (by omega); clear hr_11_3) | (have hr_11_3q := hr_11_3.resolve_right (by omega); clear hr_11_3) | skip
          refine lv_iconst (v := 0) hx hb dX14_part_74 (by decide) ?_
          exact C75 0 _ _ hh_13 (Or.inl rfl) (by first | omega | (refine ⟨?_, ?_, ?_⟩ <;> (first | omega | rfl | assumption | decide | exact Or.inl rfl | exact Or.inr rfl | (simp only; omega)))) _ (lv_sub hl [2, 3, 4, 5, 1, 0] rfl)
        · skip
          have c_29' : r_11.toInt < 0 := jb_ge_n (rfl) ((by decide)) c_29
          first | (have hr_11_3q := hr_11_3.resolve_left (by omega); clear hr_11_3) | (have hr_11_3q := hr_11_3.resolve_right (by omega); clear hr_11_3) | skip
          refine lv_iconst (v := 1) hx hb dX14_part_70 (by decide) ?_
          refine lv_goto (tgt := 75) hx hb dX14_part_71 (by decide) ?_
          exact C75 1 _ _ hh_13 (Or.inr rfl) (by first | omega | (refine ⟨?_, ?_, ?_⟩ <;> (first | omega | rfl | assumption | decide | exact Or.inl rfl | exact Or.inr rfl | (simp only; omega)))) _ (lv_sub hl [2, 3, 4, 5, 1, 0] rfl)
  exact L22 (pz.toInt - (r_3 : Int32).toInt : Int).toNat.succ r_3 0 fb fe ((pz.toInt - jGap ft pz.toInt 0).toNat + 2) _ _ (hh_2.sub (L1 := [(r0, 14, 5, .int 0), (r0, 14, 3, .ref yt), (r0, 14, 4, .int pz), (r0, 14, 6, .ref yb), (r0, 14, 7, .ref ye)]) [0, 1, 2, 3, 4] rfl (M1 := [(ye, 191, 40, ca 1, fe), (yb, 190, 40, ca 1, fb), (yt, 101, 1500, ca 1, ft)]) [2, 1, 0] rfl (I1 := []) [] rfl) (by refine ⟨by omega, by omega, by omega, by omega, by omega, by omega, ?_, ?_⟩; (rw [hr_3_0, hk0]; rfl); (rw [hk0]; exact jSrt.nil _ _ _)) (by omega) _ (lv_sub hl [3, 2, 1, 0] rfl)
