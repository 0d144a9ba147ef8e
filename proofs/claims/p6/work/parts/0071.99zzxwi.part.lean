section
def EX14_partF : List (Nat × Nat) := [(14, 5), (190, 0), (191, 0), (192, 0)]
set_option maxHeartbeats 4000000 in
set_option maxRecDepth 20000 in
theorem uX14_partF (l : Launch) (dC : Nat → ClassId) (dI : Nat → Nat → Nat) (ca : Nat → ClassId) (base : Nat) (B : jF) (hB : jBok B) (hAp : jAp (dC, dI)) (hB14 : ∀ n G a H, B 14 n G a H ↔ jOb (dC, dI) 14 11 (F14 n G) a H) (hB101 : ∀ n G a H, B 101 n G a H ↔ jAr (dC, dI) (ca 1) (fun j z => True) n a H) (hB190 : ∀ n G a H, B 190 n G a H ↔ jAr (dC, dI) (ca 1) (fun j z => 0 ≤ z.toInt ∧ z.toInt ≤ 1500) n a H) (hB191 : ∀ n G a H, B 191 n G a H ↔ jAr (dC, dI) (ca 1) (fun j z => 0 ≤ z.toInt ∧ z.toInt ≤ 1500) n a H) (hB192 : ∀ n G a H, B 192 n G a H ↔ jAr (dC, dI) (ca 1) (fun j z => 0 ≤ z.toInt ∧ z.toInt ≤ 2) n a H) (hB194 : ∀ n G a H, B 194 n G a H ↔ jAr (dC, dI) (ca 1) (fun j z => True) n a H) (G0 : jT) (H0 : Heap) (r0 : Nat) (yt : Nat) (pz : Int32) (yb : Nat) (ye : Nat) (yl : Nat) (fq : jXg) (ft : Nat → Int32) (fb : Nat → Int32) (fe : Nat → Int32) (fl : Nat → Int32) : Met l yX14_part (jw yX14_part cX14_part 6 none) ({ frames := 3, cells := 0, slots := 0, locals := 69 }) (va_Pc [.ref r0] (fun U => U.heap = H0 ∧ jX B base G0 [] H0 ∧ jG dC dI ca base U ∧ G0 r0 = some (14, 0) ∧ G0 yt = some (194, 1500) ∧ G0 yb = some (190, 40) ∧ G0 ye = some (191, 40) ∧ G0 yl = some (192, 40) ∧ jP (dC, dI) G0 H0 [(r0, 14, 3, .ref yt), (r0, 14, 4, .int pz), (r0, 14, 6, .ref yb), (r0, 14, 7, .ref ye), (r0, 14, 8, .ref yl)] ∧ jMc (dC, dI) G0 H0 [(yt, 194, 1500, ca 1, ft), (yb, 190, 40, ca 1, fb), (ye, 191, 40, ca 1, fe), (yl, 192, 40, ca 1, fl)] ∧ jIs (dC, dI) G0 H0 [(jFxd, jXD dC dI ca G0 (some r0) fq)] ∧ 0 ≤ pz.toInt ∧ pz.toInt ≤ 1500)) (va_Qv (S := Int32 × (Nat → Int32) × (Nat → Int32) × (Nat → Int32)) (fun u => u.1.toInt = jPar ft pz.toInt ∧ 0 ≤ u.1.toInt ∧ u.1.toInt ≤ 40 ∧ jSrt u.2.1 u.2.2.1 u.1.toInt pz.toInt ∧ jcP ft pz.toInt u.2.1 u.2.2.1 u.1.toInt ∧ jcPf ft pz.toInt u.2.2.2 u.1.toInt) (fun u t => (jRt (dC, dI) B base G0 EX14_partF H0 [(r0, 14, 5, .int u.1)] t.heap ∧ jMc (dC, dI) G0 t.heap [(yb, 190, 40, ca 1, u.2.1), (ye, 191, 40, ca 1, u.2.2.1), (yl, 192, 40, ca 1, u.2.2.2)]) ∧ jIs (dC, dI) G0 t.heap [(jFxd, jXD dC dI ca G0 (some r0) fq)]) (jA base)) 0 0 (jA base) := by
  refine Met.ofW (cc := cX14_part) (maxL := 6) (ret := none) (by decide) rfl ?_
  intro p e s m args below meth c s₁ Bd hml hv
  obtain ⟨rfl, hH0, hX, hG, hg_r0, hg_yt, hg_yb, hg_ye, hg_yl, hP0, hM0, hI0, hp0, hp1⟩ := hv
  have hK := hG.1
  have hx := Bd.exec
  have hb := Bd.bytes
  have hr := Bd.returns
  have hts := atoms_spec (ws := (jw yX14_part cX14_part 6 none)) Bd.pre
  have htw : ∀ w ∈ jWl, w.before _ s = true := fun w h => hts w (List.mem_cons_of_mem _ h)
  have hown : s.vm.findClass RX14 = some m.cls := findClass_of_methodNamed Bd.named
  have hlocks := Bd.notSynchronized
  obtain ⟨Q, hQ⟩ : ∃ Q, Q = MQ below (va_Qv (S := Int32 × (Nat → Int32) × (Nat → Int32) × (Nat → Int32)) (fun u => u.1.toInt = jPar ft pz.toInt ∧ 0 ≤ u.1.toInt ∧ u.1.toInt ≤ 40 ∧ jSrt u.2.1 u.2.2.1 u.1.toInt pz.toInt ∧ jcP ft pz.toInt u.2.1 u.2.2.1 u.1.toInt ∧ jcPf ft pz.toInt u.2.2.2 u.1.toInt) (fun u t => (jRt (dC, dI) B base G0 EX14_partF H0 [(r0, 14, 5, .int u.1)] t.heap ∧ jMc (dC, dI) G0 t.heap [(yb, 190, 40, ca 1, u.2.1), (ye, 191, 40, ca 1, u.2.2.1), (yl, 192, 40, ca 1, u.2.2.2)]) ∧ jIs (dC, dI) G0 t.heap [(jFxd, jXD dC dI ca G0 (some r0) fq)]) (jA base)) ([.ref r0] : List Value).toArray s 0 0 (jA base) := ⟨_, rfl⟩
  rw [← hQ]
  have hl := lv_entry ([.ref r0]) (n := 6) (Nat.le_of_ble_eq_true rfl)
  rw [lg_entry_eq]
  generalize (lg_sl ([.ref r0]) ++ List.replicate (6 - (lg_sl ([.ref r0])).length) Slot.unset).toArray = ls at hl ⊢
  have hl : lv_has ls 6 [(0, .ref r0)] := hl
  generalize hR : (headSpec (jw yX14_part cX14_part 6 none) ({ frames := 3, cells := 0, slots := 0, locals := 69 })).room = R
  subst hH0
  have hh : jSt (dC, dI) B base G0 G0 EX14_partF s.heap 0 0 [(r0, 14, 3, .ref yt), (r0, 14, 4, .int pz), (r0, 14, 6, .ref yb), (r0, 14, 7, .ref ye), (r0, 14, 8, .ref yl)] [(yt, 194, 1500, ca 1, ft), (yb, 190, 40, ca 1, fb), (ye, 191, 40, ca 1, fe), (yl, 192, 40, ca 1, fl)] [(jFxd, jXD dC dI ca G0 (some r0) fq)] s.heap [] := jSt.start hX hP0 hM0 hI0
  clear hX hP0
  have hk0 : (0 : Int32).toInt = 0 := by decide
  have hk1 : (1 : Int32).toInt = 1 := by decide
  have hk2 : (2 : Int32).toInt = 2 := by decide
  have hk39 : (39 : Int32).toInt = 39 := by decide
  have hly_14_3 := htw (u_lay RX12 TX12 3) (jWc_wsX120 _ (u_in_lay (by decide)))
  have hly_14_4 := htw (u_lay RX12 TX12 4) (jWc_wsX120 _ (u_in_lay (by decide)))
  have hly_14_5 := htw (u_lay RX12 TX12 5) (jWc_wsX120 _ (u_in_lay (by decide)))
  have hly_14_6 := htw (u_lay RX12 TX12 6) (jWc_wsX120 _ (u_in_lay (by decide)))
  have hly_14_7 := htw (u_lay RX12 TX12 7) (jWc_wsX120 _ (u_in_lay (by decide)))
  have hly_14_8 := htw (u_lay RX12 TX12 8) (jWc_wsX120 _ (u_in_lay (by decide)))
  have hlk_529 := (va_Nw.use (A := ([.ref r0] : List Value).toArray) rfl (hG.2.1 RX14 529 "ProofServerModel$Document" "text" "[I" "ProofServerModel" (List.mem_of_getElem? (i := 1735) (by decide +kernel))))
  have hlk_526 := (va_Nw.use (A := ([.ref r0] : List Value).toArray) rfl (hG.2.1 RX14 526 "ProofServerModel$Document" "units" "I" "ProofServerModel" (List.mem_of_getElem? (i := 1736) (by decide +kernel))))
  have hlk_587 := (va_Nw.use (A := ([.ref r0] : List Value).toArray) rfl (hG.2.1 RX14 587 "ProofServerModel$Document" "sentences" "I" "ProofServerModel" (List.mem_of_getElem? (i := 1737) (by decide +kernel))))
  have hlk_596 := (va_Nw.use (A := ([.ref r0] : List Value).toArray) rfl (hG.2.1 RX14 596 "ProofServerModel$Document" "begin" "[I" "ProofServerModel" (List.mem_of_getElem? (i := 1739) (by decide +kernel))))
  have hlk_599 := (va_Nw.use (A := ([.ref r0] : List Value).toArray) rfl (hG.2.1 RX14 599 "ProofServerModel$Document" "flaw" "[I" "ProofServerModel" (List.mem_of_getElem? (i := 1743) (by decide +kernel))))
  have hlk_594 := (va_Nw.use (A := ([.ref r0] : List Value).toArray) rfl (hG.2.1 RX14 594 "ProofServerModel$Document" "end" "[I" "ProofServerModel" (List.mem_of_getElem? (i := 1741) (by decide +kernel))))
  refine lv_aload_n hx hb dX14_part_0 rfl (lv_at hl 0 rfl) ?_
  refine j7_readN hx hb hown hK (C := RX12) (T := TX12) (N := 11) rfl hly_14_3 hlk_529 (hh.at 0 rfl) dX14_part_1 ?_
  refine lv_astore_n (lv' := [(1, .ref yt), (0, .ref r0)]) hx hb dX14_part_4 rfl hl (by decide) rfl (fun ls hl => ?_)
  refine lv_aload_n hx hb dX14_part_5 rfl (lv_at hl 1 rfl) ?_
  refine j7_readN hx hb hown hK (C := RX12) (T := TX12) (N := 11) rfl hly_14_4 hlk_526 (hh.at 1 rfl) dX14_part_6 ?_
  refine lv_istore_n (lv' := [(2, .int pz), (1, .ref yt), (0, .ref r0)]) hx hb dX14_part_9 rfl hl (by decide) rfl (fun ls hl => ?_)
  refine lv_aload_n hx hb dX14_part_10 rfl (lv_at hl 2 rfl) ?_
  refine lv_iconst (v := 0) hx hb dX14_part_11 (by decide) ?_
  have hdg_1 := hh.iv 0 rfl
  have hdg_1_6 := hh.at 2 rfl
  have hdg_1_7 := hh.at 3 rfl
  have hdg_1_8 := hh.at 4 rfl
  have hh_2 := hh.sub (L1 := [(r0, 14, 3, .ref yt), (r0, 14, 4, .int pz), (r0, 14, 6, .ref yb), (r0, 14, 7, .ref ye), (r0, 14, 8, .ref yl)]) [0, 1, 2, 3, 4] rfl (M1 := [(yt, 194, 1500, ca 1, ft), (yb, 190, 40, ca 1, fb), (ye, 191, 40, ca 1, fe), (yl, 192, 40, ca 1, fl)]) [0, 1, 2, 3] rfl (I1 := []) [] rfl
  clear hh
  refine j7_putNX hx hb hown hK hh_2 hB hAp hB14 (C := RX12) (T := TX12) (N := 11) rfl (by decide) hg_r0 (i := 5) (by decide) hly_14_5 rfl hlk_587 rfl (ty := .int) (v := .int 0) (by decide +kernel) rfl rfl (⟨_, rfl, by omega, by omega⟩) rfl (L1 := [(r0, 14, 3, .ref yt), (r0, 14, 4, .int pz), (r0, 14, 6, .ref yb), (r0, 14, 7, .ref ye), (r0, 14, 8, .ref yl)]) [0, 1, 2, 3, 4] rfl rfl rfl dX14_part_12 (fun H_3 locs_3 hr_3 hf_3 hh_3 => ?_)
  clear hf_3
  clear hh_2
  have hdg_1n := jXD.fld (ca := ca) hdg_1 hg_r0 hr_3 hdg_1_6 hdg_1_7 hdg_1_8 (hh_3.at 3 rfl) (hh_3.at 4 rfl) (hh_3.at 5 rfl)
  have hh_4 := hh_3.addI (jXD.ie hdg_1n)
  clear hh_3
  clear hdg_1 hdg_1n hr_3 hdg_1_6 hdg_1_7 hdg_1_8
  refine lv_aload_n hx hb dX14_part_15 rfl (lv_at hl 1 rfl) ?_
  refine lv_iconst (v := 0) hx hb dX14_part_16 (by decide) ?_
  refine lv_iload_n hx hb dX14_part_17 rfl (lv_at hl 0 rfl) ?_
  refine va_calli (A0 := jA base) (H0 := s.heap) (va_runS (As := [.ref yt, .int 0, .int pz]) (rest := []) ⟨hx, hb, hml, hown, hts⟩ (uX14_behindGapsKv9 l dC dI ca base B hB hAp hB101 hB194 G0 H_3 yt 0 pz 1500 ft) (va_cwS 3 hts (jgS (jWr_57 _ (List.mem_of_getElem? (i := 13) rfl)) (jWr_57 _ (List.mem_of_getElem? (i := 14) rfl)) (jWr_1 _ (List.mem_of_getElem? (i := 5) rfl)) (jWr_57 _ (List.mem_of_getElem? (i := 15) rfl))) rfl rfl rfl (by decide +kernel) ⟨by rw [← hR]; exact Nat.le_of_ble_eq_true rfl, by rw [← hR]; exact Nat.le_of_ble_eq_true rfl⟩) ⟨fun a U g mk q => by obtain ⟨q0, q1, q2, qK, q10, q11, q12, q13⟩ := q; exact ⟨q0, q1, q2, jG.calling g mk a qK, q10, q11, q12, q13⟩, fun U hU hW => ⟨rfl, hU, hh_4.2.1, hG.step hW hU hh_4.1, hg_yt, jP.nil, (hh_4.2.2.2.2.2.2.2.1.sub (L1 := [(yt, 194, 1500, ca 1, ft)]) [0] rfl), by first | omega | (refine ⟨?_, ?_, ?_, ?_⟩ <;> (first | omega | rfl | assumption | decide | exact Or.inl rfl | exact Or.inr rfl | (simp only; omega)))⟩⟩ rfl rfl hl.1 rfl (lv_room (Nat.le_of_ble_eq_true rfl)) dX14_part_18 ⟨Nat.zero_le _, Nat.zero_le _⟩) hh_4.1 (fun q _ h => h) (fun q h => h) (fun r_6 u_5 t_5 H_5 locs_5 ht_5 hvm_5 hr_6 hb_5 hz_5 hk_5 hS_5 => ?_)
  rw [ht_5] at hb_5
  obtain ⟨hb_51, hb_52, hb_53, hb_54, hb_55⟩ := hb_5
  have hh_5 : jSt (dC, dI) B base G0 G0 EX14_partF s.heap 0 0 [(r0, 14, 5, .int 0), (r0, 14, 3, .ref yt), (r0, 14, 4, .int pz), (r0, 14, 6, .ref yb), (r0, 14, 7, .ref ye), (r0, 14, 8, .ref yl)] [(yt, 194, 1500, ca 1, ft), (yb, 190, 40, ca 1, fb), (ye, 191, 40, ca 1, fe), (yl, 192, 40, ca 1, fl)] [(jFxd, jXD dC dI ca G0 (some r0) fq)] H_5 locs_5 := ((hh_4.call hb_51 hb_52 hb_53 hb_54 hS_5 rfl (L1 := [(r0, 14, 5, .int 0), (r0, 14, 3, .ref yt), (r0, 14, 4, .int pz), (r0, 14, 6, .ref yb), (r0, 14, 7, .ref ye), (r0, 14, 8, .ref yl)]) [0, 1, 2, 3, 4, 5] rfl rfl (M1 := [(yt, 194, 1500, ca 1, ft), (yb, 190, 40, ca 1, fb), (ye, 191, 40, ca 1, fe), (yl, 192, 40, ca 1, fl)]) [0, 1, 2, 3] rfl rfl (I1 := [(jFxd, jXD dC dI ca G0 (some r0) fq)]) [0] rfl rfl).more hb_55)
  clear hh_4 ht_5 hvm_5 hz_5 hk_5 hS_5 hb_51 hb_52 hb_53 hb_54 hb_55
  obtain ⟨hr_6_0, hr_6_1, hr_6_2⟩ := hr_6
  rw [hk0] at hr_6_0
  refine lv_istore_n (lv' := [(3, .int r_6), (2, .int pz), (1, .ref yt), (0, .ref r0)]) hx hb dX14_part_21 rfl hl (by decide) rfl (fun ls hl => ?_)
  have L22 : ∀ (N : Nat) (v3_7 : Int32) (wz_7 : Int32) (fb_7 : Nat → Int32) (fe_7 : Nat → Int32) (fl_7 : Nat → Int32) (kf : Nat) (H_7 : Heap) (locs_7 : List Loc), jSt (dC, dI) B base G0 G0 EX14_partF s.heap 0 0 [(r0, 14, 5, .int wz_7), (r0, 14, 3, .ref yt), (r0, 14, 4, .int pz), (r0, 14, 6, .ref yb), (r0, 14, 7, .ref ye), (r0, 14, 8, .ref yl)] [(yl, 192, 40, ca 1, fl_7), (ye, 191, 40, ca 1, fe_7), (yb, 190, 40, ca 1, fb_7), (yt, 194, 1500, ca 1, ft)] [(jFxd, jXD dC dI ca G0 (some r0) fq)] H_7 locs_7 → (0 ≤ v3_7.toInt ∧ v3_7.toInt ≤ pz.toInt ∧ 0 ≤ wz_7.toInt ∧ wz_7.toInt ≤ 40 ∧ (v3_7.toInt = pz.toInt ∨ wz_7.toInt ≤ 39) ∧ pz.toInt - v3_7.toInt + 1 < kf ∧ jPn ft pz.toInt kf v3_7.toInt wz_7.toInt = jPar ft pz.toInt ∧ jSrt fb_7 fe_7 wz_7.toInt v3_7.toInt ∧ jcP ft pz.toInt fb_7 fe_7 wz_7.toInt ∧ jcPf ft pz.toInt fl_7 wz_7.toInt ∧ (v3_7.toInt = jcB ft pz.toInt (wz_7.toInt).toNat ∨ wz_7.toInt = 40)) → (pz.toInt - v3_7.toInt : Int) < N → ∀ ls : Array Slot, lv_has ls 6 [(0, .ref r0), (1, .ref yt), (2, .int pz), (3, .int v3_7)] → W p l e R s m ([.ref r0] : List Value).toArray below meth c H_7 locs_7 0 0 Q (F0 m 22 ls []) := by
    intro N
    induction N with
    | zero => intro v3_7 wz_7 fb_7 fe_7 fl_7 kf H_7 locs_7 hh_7  hi_7 hm; exact absurd hm (by omega)
    | succ N L22 =>
      intro v3_7 wz_7 fb_7 fe_7 fl_7 kf H_7 locs_7 hh_7  hi_7 hm_7 ls hl
      obtain ⟨hi_7_0, hi_7_1, hi_7_2, hi_7_3, hi_7_4, hi_7_5, hi_7_6, hi_7_7, hi_7_8, hi_7_9, hi_7_10⟩ := hi_7
      refine lv_iload_n hx hb dX14_part_22 rfl (lv_at hl 3 rfl) ?_
      refine lv_iload_n hx hb dX14_part_23 rfl (lv_at hl 2 rfl) ?_
      refine lv_icmp_ge (tgt := 140) hx hb dX14_part_24 (by decide) (fun c_8 => ?_) (fun c_8 => ?_)
      · skip
        have c_8' : v3_7.toInt ≥ pz.toInt := jb_ge (rfl) (rfl) c_8
        rw [hQ]
        exact W.vret hx hb hr (fun t ht hW => ⟨⟨(wz_7, fb_7, fe_7, fl_7), rfl, by (try dsimp only); refine ⟨?_, by omega, by omega, ?_, hi_7_8, hi_7_9⟩; exact (jPn_o (by omega) (by omega) rfl).trans hi_7_6; (have h9 := hi_7_7; exact h9.up (by omega)), ⟨⟨hh_7.rt (M1 := [(r0, 14, 5, .int wz_7)]) [0] rfl ht, by rw [ht]; exact hh_7.2.2.2.2.2.2.2.1.sub [2, 1, 0] rfl⟩, by rw [ht]; exact hh_7.2.2.2.2.2.2.2.2.sub (L1 := [(jFxd, jXD dC dI ca G0 (some r0) fq)]) [0] rfl⟩⟩, by rw [ht]; try exact hh_7.1.1, fun q h9 hq => by rw [ht]; try exact hh_7.1.2.1 q h9 hq⟩) hh_7.1.2.2 dX14_part_140
      · skip
        have c_8' : v3_7.toInt < pz.toInt := jb_ge_n (rfl) (rfl) c_8
        refine lv_aload_n hx hb dX14_part_27 rfl (lv_at hl 0 rfl) ?_
        refine j7_readN hx hb hown hK (C := RX12) (T := TX12) (N := 11) rfl hly_14_5 hlk_587 (hh_7.at 0 rfl) dX14_part_28 ?_
        refine lv_istore (lv' := [(4, .int wz_7), (0, .ref r0), (1, .ref yt), (2, .int pz), (3, .int v3_7)]) hx hb dX14_part_31 hl (by decide) rfl (fun ls hl => ?_)
        refine lv_aload_n hx hb dX14_part_33 rfl (lv_at hl 1 rfl) ?_
        refine lv_dup hx hb dX14_part_34 rfl ?_
        refine j7_readN hx hb hown hK (C := RX12) (T := TX12) (N := 11) rfl hly_14_5 hlk_587 (hh_7.at 0 rfl) dX14_part_35 ?_
        refine lv_iconst (v := 1) hx hb dX14_part_38 (by decide) ?_
        refine lv_iadd hx hb dX14_part_39 ?_
        refine lv_topi (fun z_9 ez_9 => ?_)
        have hz_9 : z_9.toInt = wz_7.toInt + 1 := by rw [ez_9]; exact jb_iadd2 (rfl) ((by decide)) (by omega)
        have hdg_10 := hh_7.iv 0 rfl
        have hdg_10_6 := hh_7.at 3 rfl
        have hdg_10_7 := hh_7.at 4 rfl
        have hdg_10_8 := hh_7.at 5 rfl
        have hh_11 := hh_7.sub (L1 := [(r0, 14, 5, .int wz_7), (r0, 14, 3, .ref yt), (r0, 14, 4, .int pz), (r0, 14, 6, .ref yb), (r0, 14, 7, .ref ye), (r0, 14, 8, .ref yl)]) [0, 1, 2, 3, 4, 5] rfl (M1 := [(yl, 192, 40, ca 1, fl_7), (ye, 191, 40, ca 1, fe_7), (yb, 190, 40, ca 1, fb_7), (yt, 194, 1500, ca 1, ft)]) [0, 1, 2, 3] rfl (I1 := []) [] rfl
        clear hh_7
        refine j7_putNX hx hb hown hK hh_11 hB hAp hB14 (C := RX12) (T := TX12) (N := 11) rfl (by decide) hg_r0 (i := 5) (by decide) hly_14_5 rfl hlk_587 rfl (ty := .int) (v := .int z_9) (by decide +kernel) rfl rfl (⟨_, rfl, by omega, by omega⟩) rfl (L1 := [(r0, 14, 3, .ref yt), (r0, 14, 4, .int pz), (r0, 14, 6, .ref yb), (r0, 14, 7, .ref ye), (r0, 14, 8, .ref yl)]) [1, 2, 3, 4, 5] rfl rfl rfl dX14_part_40 (fun H_12 locs_12 hr_12 hf_12 hh_12 => ?_)
        clear hf_12
        clear hh_11
        have hdg_10n := jXD.fld (ca := ca) hdg_10 hg_r0 hr_12 hdg_10_6 hdg_10_7 hdg_10_8 (hh_12.at 3 rfl) (hh_12.at 4 rfl) (hh_12.at 5 rfl)
        have hh_13 := hh_12.addI (jXD.ie hdg_10n)
        clear hh_12
        clear hdg_10 hdg_10n hr_12 hdg_10_6 hdg_10_7 hdg_10_8
        refine lv_aload_n hx hb dX14_part_43 rfl (lv_at hl 1 rfl) ?_
        refine j7_readN hx hb hown hK (C := RX12) (T := TX12) (N := 11) rfl hly_14_6 hlk_596 (hh_13.at 3 rfl) dX14_part_44 ?_
        refine lv_iload hx hb dX14_part_47 (lv_at hl 0 rfl) ?_
        refine lv_iload_n hx hb dX14_part_49 rfl (lv_at hl 4 rfl) ?_
        have hd_15 := hh_13.iv 0 rfl
        have hd_15f := hh_13.at 3 rfl
        have hh_16 := hh_13.sub (L1 := [(r0, 14, 5, .int z_9), (r0, 14, 3, .ref yt), (r0, 14, 4, .int pz), (r0, 14, 6, .ref yb), (r0, 14, 7, .ref ye), (r0, 14, 8, .ref yl)]) [0, 1, 2, 3, 4, 5] rfl (M1 := [(yl, 192, 40, ca 1, fl_7), (ye, 191, 40, ca 1, fe_7), (yb, 190, 40, ca 1, fb_7), (yt, 194, 1500, ca 1, ft)]) [0, 1, 2, 3] rfl (I1 := []) [] rfl
        clear hh_13
        refine j7_iastX hx hb hK hh_16 hB hB190 1 rfl (by decide) (by decide) rfl 2 rfl (M1 := [(yl, 192, 40, ca 1, fl_7), (ye, 191, 40, ca 1, fe_7), (yt, 194, 1500, ca 1, ft)]) [0, 1, 3] rfl rfl rfl hg_yb (x := wz_7.toInt) (rfl) (by omega) (by first | omega | (refine ⟨?_, ?_⟩ <;> (first | omega | rfl | assumption | decide | exact Or.inl rfl | exact Or.inr rfl | (simp only; omega)))) dX14_part_50 (fun H_14 locs_14 fs_17 hv_14 ho_14 hr_14 hh_14 => ?_)
        have hv_14 : jSo fs_17 (wz_7.toInt) = v3_7.toInt := by unfold jSo; rw [hv_14]; try exact rfl
        clear hh_16
        have hd_15n := jXD.a6 hd_15 hg_r0 hg_yb hd_15f hr_14
        have hh_18 := hh_14.addI (jXD.ie hd_15n)
        clear hh_14
        clear hd_15 hd_15f hd_15n hr_14
        refine lv_aload_n hx hb dX14_part_51 rfl (lv_at hl 2 rfl) ?_
        refine lv_iload_n hx hb dX14_part_52 rfl (lv_at hl 4 rfl) ?_
        refine lv_iload_n hx hb dX14_part_53 rfl (lv_at hl 3 rfl) ?_
        refine va_calli (A0 := jA base) (H0 := s.heap) (va_runS (As := [.ref yt, .int v3_7, .int pz]) (rest := []) ⟨hx, hb, hml, hown, hts⟩ (uX14_sentenceEndKv9 l dC dI ca base B hB hAp hB101 hB194 G0 H_14 yt v3_7 pz 1500 ft) (va_cwS 3 hts (jgS (jWr_58 _ (List.mem_of_getElem? (i := 4) rfl)) (jWr_58 _ (List.mem_of_getElem? (i := 5) rfl)) (jWr_1 _ (List.mem_of_getElem? (i := 5) rfl)) (jWr_58 _ (List.mem_of_getElem? (i := 6) rfl))) rfl rfl rfl (by decide +kernel) ⟨by rw [← hR]; exact Nat.le_of_ble_eq_true rfl, by rw [← hR]; exact Nat.le_of_ble_eq_true rfl⟩) ⟨fun a U g mk q => by obtain ⟨q0, q1, q2, qK, q10, q11, q12, q13⟩ := q; exact ⟨q0, q1, q2, jG.calling g mk a qK, q10, q11, q12, q13⟩, fun U hU hW => ⟨rfl, hU, hh_18.2.1, hG.step hW hU hh_18.1, hg_yt, jP.nil, (hh_18.2.2.2.2.2.2.2.1.sub (L1 := [(yt, 194, 1500, ca 1, ft)]) [3] rfl), by first | omega | (refine ⟨?_, ?_, ?_, ?_⟩ <;> (first | omega | rfl | assumption | decide | exact Or.inl rfl | exact Or.inr rfl | (simp only; omega)))⟩⟩ rfl rfl hl.1 rfl (lv_room (Nat.le_of_ble_eq_true rfl)) dX14_part_54 ⟨Nat.zero_le _, Nat.zero_le _⟩) hh_18.1 (fun q _ h => h) (fun q h => h) (fun r_20 u_19 t_19 H_19 locs_19 ht_19 hvm_19 hr_20 hb_19 hz_19 hk_19 hS_19 => ?_)
        rw [ht_19] at hb_19
        obtain ⟨hb_191, hb_192, hb_193, hb_194, hb_195⟩ := hb_19
        have hh_19 : jSt (dC, dI) B base G0 G0 EX14_partF s.heap 0 0 [(r0, 14, 5, .int z_9), (r0, 14, 3, .ref yt), (r0, 14, 4, .int pz), (r0, 14, 6, .ref yb), (r0, 14, 7, .ref ye), (r0, 14, 8, .ref yl)] [(yb, 190, 40, ca 1, fs_17), (yl, 192, 40, ca 1, fl_7), (ye, 191, 40, ca 1, fe_7), (yt, 194, 1500, ca 1, ft)] [(jFxd, jXD dC dI ca G0 (some r0) fq)] H_19 locs_19 := ((hh_18.call hb_191 hb_192 hb_193 hb_194 hS_19 rfl (L1 := [(r0, 14, 5, .int z_9), (r0, 14, 3, .ref yt), (r0, 14, 4, .int pz), (r0, 14, 6, .ref yb), (r0, 14, 7, .ref ye), (r0, 14, 8, .ref yl)]) [0, 1, 2, 3, 4, 5] rfl rfl (M1 := [(yb, 190, 40, ca 1, fs_17), (yl, 192, 40, ca 1, fl_7), (ye, 191, 40, ca 1, fe_7), (yt, 194, 1500, ca 1, ft)]) [0, 1, 2, 3] rfl rfl (I1 := [(jFxd, jXD dC dI ca G0 (some r0) fq)]) [0] rfl rfl).more hb_195)
        clear hh_18 ht_19 hvm_19 hz_19 hk_19 hS_19 hb_191 hb_192 hb_193 hb_194 hb_195
        obtain ⟨hr_20_0, hr_20_1, hr_20_2, hr_20_3⟩ := hr_20
        refine lv_istore (lv' := [(5, .int r_20), (4, .int wz_7), (0, .ref r0), (1, .ref yt), (2, .int pz), (3, .int v3_7)]) hx hb dX14_part_57 hl (by decide) rfl (fun ls hl => ?_)
        refine lv_aload_n hx hb dX14_part_59 rfl (lv_at hl 2 rfl) ?_
        refine j7_readN hx hb hown hK (C := RX12) (T := TX12) (N := 11) rfl hly_14_8 hlk_599 (hh_19.at 5 rfl) dX14_part_60 ?_
        refine lv_iload hx hb dX14_part_63 (lv_at hl 1 rfl) ?_
        refine lv_iload hx hb dX14_part_65 (lv_at hl 0 rfl) ?_
        have C75 : ∀ (w0_21 : Int32) (H_21 : Heap) (locs_21 : List Loc), jSt (dC, dI) B base G0 G0 EX14_partF s.heap 0 0 [(r0, 14, 5, .int z_9), (r0, 14, 3, .ref yt), (r0, 14, 4, .int pz), (r0, 14, 6, .ref yb), (r0, 14, 7, .ref ye), (r0, 14, 8, .ref yl)] [(yb, 190, 40, ca 1, fs_17), (yl, 192, 40, ca 1, fl_7), (ye, 191, 40, ca 1, fe_7), (yt, 194, 1500, ca 1, ft)] [(jFxd, jXD dC dI ca G0 (some r0) fq)] H_21 locs_21 → (w0_21 = 0 ∨ w0_21 = 1) → (w0_21.toInt = (if r_20.toInt < 0 then 1 else 0) ∧ (r_20.toInt = -1 ∨ v3_7.toInt < r_20.toInt)) → ∀ ls : Array Slot, lv_has ls 6 [(0, .ref r0), (1, .ref yt), (2, .int pz), (3, .int v3_7), (4, .int wz_7), (5, .int r_20)] → W p l e R s m ([.ref r0] : List Value).toArray below meth c H_21 locs_21 0 0 Q (F0 m 75 ls [.int w0_21, .int wz_7, .ref yl]) := by
          intro w0_21 H_21 locs_21 hh_21 hb_w0_21 hi_21 ls hl
          obtain ⟨hi_21_0, hi_21_1⟩ := hi_21
          have hb_w0_21' := jb_01 hb_w0_21
          try clear hr_20_3
          have hd_23 := hh_21.iv 0 rfl
          have hd_23f := hh_21.at 5 rfl
          have hh_24 := hh_21.sub (L1 := [(r0, 14, 5, .int z_9), (r0, 14, 3, .ref yt), (r0, 14, 4, .int pz), (r0, 14, 6, .ref yb), (r0, 14, 7, .ref ye), (r0, 14, 8, .ref yl)]) [0, 1, 2, 3, 4, 5] rfl (M1 := [(yb, 190, 40, ca 1, fs_17), (yl, 192, 40, ca 1, fl_7), (ye, 191, 40, ca 1, fe_7), (yt, 194, 1500, ca 1, ft)]) [0, 1, 2, 3] rfl (I1 := []) [] rfl
          clear hh_21
          refine j7_iastX hx hb hK hh_24 hB hB192 1 rfl (by decide) (by decide) rfl 1 rfl (M1 := [(yb, 190, 40, ca 1, fs_17), (ye, 191, 40, ca 1, fe_7), (yt, 194, 1500, ca 1, ft)]) [0, 2, 3] rfl rfl rfl hg_yl (x := wz_7.toInt) (rfl) (by omega) (by first | omega | (refine ⟨?_, ?_⟩ <;> (first | omega | rfl | assumption | decide | exact Or.inl rfl | exact Or.inr rfl | (simp only; omega)))) dX14_part_75 (fun H_22 locs_22 fs_25 hv_22 ho_22 hr_22 hh_22 => ?_)
          have hv_22 : jSo fs_25 (wz_7.toInt) = w0_21.toInt := by unfold jSo; rw [hv_22]; try exact rfl
          clear hh_24
          have hd_23n := jXD.a8 hd_23 hg_r0 hg_yl hd_23f hr_22
          have hh_26 := hh_22.addI (jXD.ie hd_23n)
          clear hh_22
          clear hd_23 hd_23f hd_23n hr_22
          refine lv_aload_n hx hb dX14_part_76 rfl (lv_at hl 0 rfl) ?_
          refine j7_readN hx hb hown hK (C := RX12) (T := TX12) (N := 11) rfl hly_14_7 hlk_594 (hh_26.at 4 rfl) dX14_part_77 ?_
          refine lv_iload hx hb dX14_part_80 (lv_at hl 4 rfl) ?_
          refine lv_iload hx hb dX14_part_82 (lv_at hl 5 rfl) ?_
          have C93 : ∀ (w0_27 : Int32) (H_27 : Heap) (locs_27 : List Loc), jSt (dC, dI) B base G0 G0 EX14_partF s.heap 0 0 [(r0, 14, 5, .int z_9), (r0, 14, 3, .ref yt), (r0, 14, 4, .int pz), (r0, 14, 6, .ref yb), (r0, 14, 7, .ref ye), (r0, 14, 8, .ref yl)] [(yl, 192, 40, ca 1, fs_25), (yb, 190, 40, ca 1, fs_17), (ye, 191, 40, ca 1, fe_7), (yt, 194, 1500, ca 1, ft)] [(jFxd, jXD dC dI ca G0 (some r0) fq)] H_27 locs_27 → (w0_27.toInt = jEn ft pz.toInt v3_7.toInt ∧ v3_7.toInt < w0_27.toInt ∧ w0_27.toInt ≤ pz.toInt) → ∀ ls : Array Slot, lv_has ls 6 [(0, .ref r0), (1, .ref yt), (2, .int pz), (3, .int v3_7), (4, .int wz_7), (5, .int r_20)] → W p l e R s m ([.ref r0] : List Value).toArray below meth c H_27 locs_27 0 0 Q (F0 m 93 ls [.int w0_27, .int wz_7, .ref ye]) := by
            intro w0_27 H_27 locs_27 hh_27  hi_27 ls hl
            obtain ⟨hi_27_0, hi_27_1, hi_27_2⟩ := hi_27
            have hd_29 := hh_27.iv 0 rfl
            have hd_29f := hh_27.at 4 rfl
            have hh_30 := hh_27.sub (L1 := [(r0, 14, 5, .int z_9), (r0, 14, 3, .ref yt), (r0, 14, 4, .int pz), (r0, 14, 6, .ref yb), (r0, 14, 7, .ref ye), (r0, 14, 8, .ref yl)]) [0, 1, 2, 3, 4, 5] rfl (M1 := [(yl, 192, 40, ca 1, fs_25), (yb, 190, 40, ca 1, fs_17), (ye, 191, 40, ca 1, fe_7), (yt, 194, 1500, ca 1, ft)]) [0, 1, 2, 3] rfl (I1 := []) [] rfl
            clear hh_27
            refine j7_iastX hx hb hK hh_30 hB hB191 1 rfl (by decide) (by decide) rfl 2 rfl (M1 := [(yl, 192, 40, ca 1, fs_25), (yb, 190, 40, ca 1, fs_17), (yt, 194, 1500, ca 1, ft)]) [0, 1, 3] rfl rfl rfl hg_ye (x := wz_7.toInt) (rfl) (by omega) (by first | omega | (refine ⟨?_, ?_⟩ <;> (first | omega | rfl | assumption | decide | exact Or.inl rfl | exact Or.inr rfl | (simp only; omega)))) dX14_part_93 (fun H_28 locs_28 fs_31 hv_28 ho_28 hr_28 hh_28 => ?_)
            have hv_28 : jSo fs_31 (wz_7.toInt) = w0_27.toInt := by unfold jSo; rw [hv_28]; try exact rfl
            clear hh_30
            have hd_29n := jXD.a7 hd_29 hg_r0 hg_ye hd_29f hr_28
            have hh_32 := hh_28.addI (jXD.ie hd_29n)
            clear hh_28
            clear hd_29 hd_29f hd_29n hr_28
            refine lv_aload_n hx hb dX14_part_94 rfl (lv_at hl 1 rfl) ?_
            refine lv_aload_n hx hb dX14_part_95 rfl (lv_at hl 0 rfl) ?_
            refine j7_readN hx hb hown hK (C := RX12) (T := TX12) (N := 11) rfl hly_14_7 hlk_594 (hh_32.at 4 rfl) dX14_part_96 ?_
            refine lv_iload hx hb dX14_part_99 (lv_at hl 4 rfl) ?_
            refine j7_ialdM hx hb hK hh_32 hB191 1 rfl (by decide) hg_ye (x := wz_7.toInt) (rfl) (by omega) (j := 0) rfl dX14_part_101 (fun z_33 ez_33 (hz_33 : 0 ≤ z_33.toInt ∧ z_33.toInt ≤ 1500) => ?_)
            have hqz_33 : z_33.toInt = jSo fs_31 (wz_7.toInt) := by unfold jSo; rw [ez_33]
            refine lv_iload_n hx hb dX14_part_102 rfl (lv_at hl 2 rfl) ?_
            refine va_calli (A0 := jA base) (H0 := s.heap) (va_runS (As := [.ref yt, .int z_33, .int pz]) (rest := []) ⟨hx, hb, hml, hown, hts⟩ (uX14_behindGapsKv9 l dC dI ca base B hB hAp hB101 hB194 G0 H_28 yt z_33 pz 1500 ft) (va_cwS 3 hts (jgS (jWr_57 _ (List.mem_of_getElem? (i := 13) rfl)) (jWr_57 _ (List.mem_of_getElem? (i := 14) rfl)) (jWr_1 _ (List.mem_of_getElem? (i := 5) rfl)) (jWr_57 _ (List.mem_of_getElem? (i := 15) rfl))) rfl rfl rfl (by decide +kernel) ⟨by rw [← hR]; exact Nat.le_of_ble_eq_true rfl, by rw [← hR]; exact Nat.le_of_ble_eq_true rfl⟩) ⟨fun a U g mk q => by obtain ⟨q0, q1, q2, qK, q10, q11, q12, q13⟩ := q; exact ⟨q0, q1, q2, jG.calling g mk a qK, q10, q11, q12, q13⟩, fun U hU hW => ⟨rfl, hU, hh_32.2.1, hG.step hW hU hh_32.1, hg_yt, jP.nil, (hh_32.2.2.2.2.2.2.2.1.sub (L1 := [(yt, 194, 1500, ca 1, ft)]) [3] rfl), by first | omega | (refine ⟨?_, ?_, ?_, ?_⟩ <;> (first | omega | rfl | assumption | decide | exact Or.inl rfl | exact Or.inr rfl | (simp only; omega)))⟩⟩ rfl rfl hl.1 rfl (lv_room (Nat.le_of_ble_eq_true rfl)) dX14_part_103 ⟨Nat.zero_le _, Nat.zero_le _⟩) hh_32.1 (fun q _ h => h) (fun q h => h) (fun r_35 u_34 t_34 H_34 locs_34 ht_34 hvm_34 hr_35 hb_34 hz_34 hk_34 hS_34 => ?_)
            rw [ht_34] at hb_34
            obtain ⟨hb_341, hb_342, hb_343, hb_344, hb_345⟩ := hb_34
            have hh_34 : jSt (dC, dI) B base G0 G0 EX14_partF s.heap 0 0 [(r0, 14, 5, .int z_9), (r0, 14, 3, .ref yt), (r0, 14, 4, .int pz), (r0, 14, 6, .ref yb), (r0, 14, 7, .ref ye), (r0, 14, 8, .ref yl)] [(ye, 191, 40, ca 1, fs_31), (yl, 192, 40, ca 1, fs_25), (yb, 190, 40, ca 1, fs_17), (yt, 194, 1500, ca 1, ft)] [(jFxd, jXD dC dI ca G0 (some r0) fq)] H_34 locs_34 := ((hh_32.call hb_341 hb_342 hb_343 hb_344 hS_34 rfl (L1 := [(r0, 14, 5, .int z_9), (r0, 14, 3, .ref yt), (r0, 14, 4, .int pz), (r0, 14, 6, .ref yb), (r0, 14, 7, .ref ye), (r0, 14, 8, .ref yl)]) [0, 1, 2, 3, 4, 5] rfl rfl (M1 := [(ye, 191, 40, ca 1, fs_31), (yl, 192, 40, ca 1, fs_25), (yb, 190, 40, ca 1, fs_17), (yt, 194, 1500, ca 1, ft)]) [0, 1, 2, 3] rfl rfl (I1 := [(jFxd, jXD dC dI ca G0 (some r0) fq)]) [0] rfl rfl).more hb_345)
            clear hh_32 ht_34 hvm_34 hz_34 hk_34 hS_34 hb_341 hb_342 hb_343 hb_344 hb_345
            obtain ⟨hr_35_0, hr_35_1, hr_35_2⟩ := hr_35
            refine lv_istore_n (lv' := [(3, .int r_35), (0, .ref r0), (1, .ref yt), (2, .int pz), (4, .int wz_7), (5, .int r_20)]) hx hb dX14_part_106 rfl hl (by decide) rfl (fun ls hl => ?_)
            have hg9 : r_35.toInt = jGap ft pz.toInt w0_27.toInt := by rw [hr_35_0, hqz_33, hv_28]
            refine lv_iload hx hb dX14_part_107 (lv_at hl 4 rfl) ?_
            refine lv_bipush (v := 39) hx hb dX14_part_109 (by decide) ?_
            refine lv_icmp_ne (tgt := 137) hx hb dX14_part_111 (by decide) (fun c_36 => ?_) (fun c_36 => ?_)
            · skip
              have c_36' : wz_7.toInt ≠ 39 := jb_ne (rfl) ((by decide)) c_36
              refine lv_goto (tgt := 22) hx hb dX14_part_137 (by decide) ?_
              exact L22 r_35 z_9 fs_17 fs_31 fs_25 (kf - 1) _ _ (hh_34.sub (L1 := [(r0, 14, 5, .int z_9), (r0, 14, 3, .ref yt), (r0, 14, 4, .int pz), (r0, 14, 6, .ref yb), (r0, 14, 7, .ref ye), (r0, 14, 8, .ref yl)]) [0, 1, 2, 3, 4, 5] rfl (M1 := [(yl, 192, 40, ca 1, fs_25), (ye, 191, 40, ca 1, fs_31), (yb, 190, 40, ca 1, fs_17), (yt, 194, 1500, ca 1, ft)]) [1, 0, 2, 3] rfl (I1 := [(jFxd, jXD dC dI ca G0 (some r0) fq)]) [0] rfl) (by refine ⟨by omega, by omega, by omega, by omega, by omega, by omega, ?_, ?_, ?_, ?_, ?_⟩; (first | exact (jPn_m (by omega) (by omega) (by omega) (by rw [hr_35_0, hqz_33, hv_28, hi_27_0]) (by omega)).trans hi_7_6 | exact (jPn_l (by omega) (by omega) (by omega) (by omega) (by omega) (by omega)).trans hi_7_6); exact hi_7_7.app (jUpd.mk (n := 40) hv_14 ho_14 rfl (by omega)) (jUpd.mk (n := 40) hv_28 ho_28 rfl (by omega)) (by omega) (by omega) (by omega) (by omega) (by omega) (by omega); exact hi_7_8.app (jUpd.mk (n := 40) hv_14 ho_14 rfl (by omega)) (jUpd.mk (n := 40) hv_28 ho_28 rfl (by omega)) (by omega) (by omega) (by omega) (hi_7_10.resolve_right (by omega)) (jcE.n (hi_7_10.resolve_right (by omega)) hi_27_0 (by first | exact Or.inl (by omega) | exact Or.inr (by omega)) (by omega)) (by omega); exact hi_7_9.app (jUpd.mk (n := 40) hv_22 ho_22 rfl (by omega)) (by omega) (by omega) (jcF.n (hi_7_10.resolve_right (by omega)) hi_27_0 (by first | exact Or.inl (by omega) | exact Or.inr (by omega)) (by omega) hr_20_0 hi_21_0) (by omega); exact Or.inl (jcB.nx (by omega) (hi_7_10.resolve_right (by omega)) (by rw [hr_35_0, hqz_33, hv_28, hi_27_0]) (by omega))) (by omega) _ (lv_sub hl [1, 2, 3, 0] rfl)
            · skip
              have c_36' : wz_7.toInt = 39 := jb_ne_n (rfl) ((by decide)) c_36
              refine lv_iload_n hx hb dX14_part_114 rfl (lv_at hl 0 rfl) ?_
              refine lv_iload_n hx hb dX14_part_115 rfl (lv_at hl 3 rfl) ?_
              refine lv_icmp_ge (tgt := 137) hx hb dX14_part_116 (by decide) (fun c_37 => ?_) (fun c_37 => ?_)
              · skip
                have c_37' : r_35.toInt ≥ pz.toInt := jb_ge (rfl) (rfl) c_37
                refine lv_goto (tgt := 22) hx hb dX14_part_137 (by decide) ?_
                exact L22 r_35 z_9 fs_17 fs_31 fs_25 (kf - 1) _ _ (hh_34.sub (L1 := [(r0, 14, 5, .int z_9), (r0, 14, 3, .ref yt), (r0, 14, 4, .int pz), (r0, 14, 6, .ref yb), (r0, 14, 7, .ref ye), (r0, 14, 8, .ref yl)]) [0, 1, 2, 3, 4, 5] rfl (M1 := [(yl, 192, 40, ca 1, fs_25), (ye, 191, 40, ca 1, fs_31), (yb, 190, 40, ca 1, fs_17), (yt, 194, 1500, ca 1, ft)]) [1, 0, 2, 3] rfl (I1 := [(jFxd, jXD dC dI ca G0 (some r0) fq)]) [0] rfl) (by refine ⟨by omega, by omega, by omega, by omega, by omega, by omega, ?_, ?_, ?_, ?_, ?_⟩; (first | exact (jPn_m (by omega) (by omega) (by omega) (by rw [hr_35_0, hqz_33, hv_28, hi_27_0]) (by omega)).trans hi_7_6 | exact (jPn_l (by omega) (by omega) (by omega) (by omega) (by omega) (by omega)).trans hi_7_6); exact hi_7_7.app (jUpd.mk (n := 40) hv_14 ho_14 rfl (by omega)) (jUpd.mk (n := 40) hv_28 ho_28 rfl (by omega)) (by omega) (by omega) (by omega) (by omega) (by omega) (by omega); exact hi_7_8.app (jUpd.mk (n := 40) hv_14 ho_14 rfl (by omega)) (jUpd.mk (n := 40) hv_28 ho_28 rfl (by omega)) (by omega) (by omega) (by omega) (hi_7_10.resolve_right (by omega)) (jcE.n (hi_7_10.resolve_right (by omega)) hi_27_0 (by first | exact Or.inl (by omega) | exact Or.inr (by omega)) (by omega)) (by omega); exact hi_7_9.app (jUpd.mk (n := 40) hv_22 ho_22 rfl (by omega)) (by omega) (by omega) (jcF.n (hi_7_10.resolve_right (by omega)) hi_27_0 (by first | exact Or.inl (by omega) | exact Or.inr (by omega)) (by omega) hr_20_0 hi_21_0) (by omega); exact Or.inl (jcB.nx (by omega) (hi_7_10.resolve_right (by omega)) (by rw [hr_35_0, hqz_33, hv_28, hi_27_0]) (by omega))) (by omega) _ (lv_sub hl [1, 2, 3, 0] rfl)
              · skip
                have c_37' : r_35.toInt < pz.toInt := jb_ge_n (rfl) (rfl) c_37
                refine lv_aload_n hx hb dX14_part_119 rfl (lv_at hl 1 rfl) ?_
                refine j7_readN hx hb hown hK (C := RX12) (T := TX12) (N := 11) rfl hly_14_8 hlk_599 (hh_34.at 5 rfl) dX14_part_120 ?_
                refine lv_iload hx hb dX14_part_123 (lv_at hl 4 rfl) ?_
                refine lv_iconst (v := 2) hx hb dX14_part_125 (by decide) ?_
                have hd_39 := hh_34.iv 0 rfl
                have hd_39f := hh_34.at 5 rfl
                have hh_40 := hh_34.sub (L1 := [(r0, 14, 5, .int z_9), (r0, 14, 3, .ref yt), (r0, 14, 4, .int pz), (r0, 14, 6, .ref yb), (r0, 14, 7, .ref ye), (r0, 14, 8, .ref yl)]) [0, 1, 2, 3, 4, 5] rfl (M1 := [(ye, 191, 40, ca 1, fs_31), (yl, 192, 40, ca 1, fs_25), (yb, 190, 40, ca 1, fs_17), (yt, 194, 1500, ca 1, ft)]) [0, 1, 2, 3] rfl (I1 := []) [] rfl
                clear hh_34
                refine j7_iastX hx hb hK hh_40 hB hB192 1 rfl (by decide) (by decide) rfl 1 rfl (M1 := [(ye, 191, 40, ca 1, fs_31), (yb, 190, 40, ca 1, fs_17), (yt, 194, 1500, ca 1, ft)]) [0, 2, 3] rfl rfl rfl hg_yl (x := wz_7.toInt) (rfl) (by omega) (by first | omega | (refine ⟨?_, ?_⟩ <;> (first | omega | rfl | assumption | decide | exact Or.inl rfl | exact Or.inr rfl | (simp only; omega)))) dX14_part_126 (fun H_38 locs_38 fs_41 hv_38 ho_38 hr_38 hh_38 => ?_)
                have hv_38 : jSo fs_41 (wz_7.toInt) = 2 := by unfold jSo; rw [hv_38]; try exact (by decide)
                clear hh_40
                have hd_39n := jXD.a8 hd_39 hg_r0 hg_yl hd_39f hr_38
                have hh_42 := hh_38.addI (jXD.ie hd_39n)
                clear hh_38
                clear hd_39 hd_39f hd_39n hr_38
                refine lv_aload_n hx hb dX14_part_127 rfl (lv_at hl 1 rfl) ?_
                refine j7_readN hx hb hown hK (C := RX12) (T := TX12) (N := 11) rfl hly_14_7 hlk_594 (hh_42.at 4 rfl) dX14_part_128 ?_
                refine lv_iload hx hb dX14_part_131 (lv_at hl 4 rfl) ?_
                refine lv_iload_n hx hb dX14_part_133 rfl (lv_at hl 3 rfl) ?_
                have hd_44 := hh_42.iv 0 rfl
                have hd_44f := hh_42.at 4 rfl
                have hh_45 := hh_42.sub (L1 := [(r0, 14, 5, .int z_9), (r0, 14, 3, .ref yt), (r0, 14, 4, .int pz), (r0, 14, 6, .ref yb), (r0, 14, 7, .ref ye), (r0, 14, 8, .ref yl)]) [0, 1, 2, 3, 4, 5] rfl (M1 := [(yl, 192, 40, ca 1, fs_41), (ye, 191, 40, ca 1, fs_31), (yb, 190, 40, ca 1, fs_17), (yt, 194, 1500, ca 1, ft)]) [0, 1, 2, 3] rfl (I1 := []) [] rfl
                clear hh_42
                refine j7_iastX hx hb hK hh_45 hB hB191 1 rfl (by decide) (by decide) rfl 1 rfl (M1 := [(yl, 192, 40, ca 1, fs_41), (yb, 190, 40, ca 1, fs_17), (yt, 194, 1500, ca 1, ft)]) [0, 2, 3] rfl rfl rfl hg_ye (x := wz_7.toInt) (rfl) (by omega) (by first | omega | (refine ⟨?_, ?_⟩ <;> (first | omega | rfl | assumption | decide | exact Or.inl rfl | exact Or.inr rfl | (simp only; omega)))) dX14_part_134 (fun H_43 locs_43 fs_46 hv_43 ho_43 hr_43 hh_43 => ?_)
                have hv_43 : jSo fs_46 (wz_7.toInt) = pz.toInt := by unfold jSo; rw [hv_43]; try exact rfl
                clear hh_45
                have hd_44n := jXD.a7 hd_44 hg_r0 hg_ye hd_44f hr_43
                have hh_47 := hh_43.addI (jXD.ie hd_44n)
                clear hh_43
                clear hd_44 hd_44f hd_44n hr_43
                refine lv_iload_n hx hb dX14_part_135 rfl (lv_at hl 3 rfl) ?_
                refine lv_istore_n (lv' := [(3, .int pz), (0, .ref r0), (1, .ref yt), (2, .int pz), (4, .int wz_7), (5, .int r_20)]) hx hb dX14_part_136 rfl hl (by decide) rfl (fun ls hl => ?_)
                refine lv_goto (tgt := 22) hx hb dX14_part_137 (by decide) ?_
                exact L22 pz z_9 fs_17 fs_46 fs_41 (kf - 1) _ _ (hh_47.sub (L1 := [(r0, 14, 5, .int z_9), (r0, 14, 3, .ref yt), (r0, 14, 4, .int pz), (r0, 14, 6, .ref yb), (r0, 14, 7, .ref ye), (r0, 14, 8, .ref yl)]) [0, 1, 2, 3, 4, 5] rfl (M1 := [(yl, 192, 40, ca 1, fs_41), (ye, 191, 40, ca 1, fs_46), (yb, 190, 40, ca 1, fs_17), (yt, 194, 1500, ca 1, ft)]) [1, 0, 2, 3] rfl (I1 := [(jFxd, jXD dC dI ca G0 (some r0) fq)]) [0] rfl) (by refine ⟨by omega, by omega, by omega, by omega, by omega, by omega, ?_, ?_, ?_, ?_, ?_⟩; (first | exact (jPn_m (by omega) (by omega) (by omega) (by rw [hr_35_0, hqz_33, hv_28, hi_27_0]) (by omega)).trans hi_7_6 | exact (jPn_l (by omega) (by omega) (by omega) (by omega) (by omega) (by omega)).trans hi_7_6); exact hi_7_7.app (jUpd.mk (n := 40) hv_14 ho_14 rfl (by omega)) ((jUpd.mk (n := 40) hv_28 ho_28 rfl (by omega)).two (jUpd.mk (n := 40) hv_43 ho_43 rfl (by omega))) (by omega) (by omega) (by omega) (by omega) (by omega) (by omega); exact hi_7_8.app (jUpd.mk (n := 40) hv_14 ho_14 rfl (by omega)) ((jUpd.mk (n := 40) hv_28 ho_28 rfl (by omega)).two (jUpd.mk (n := 40) hv_43 ho_43 rfl (by omega))) (by omega) (by omega) (by omega) (hi_7_10.resolve_right (by omega)) (jcE.y (hi_7_10.resolve_right (by omega)) hi_27_0 (by omega) (by omega)) (by omega); exact hi_7_9.app ((jUpd.mk (n := 40) hv_22 ho_22 rfl (by omega)).two (jUpd.mk (n := 40) hv_38 ho_38 rfl (by omega))) (by omega) (by omega) (jcF.y (hi_7_10.resolve_right (by omega)) hi_27_0 (by omega) (by omega)) (by omega); exact Or.inr (by omega)) (by omega) _ (lv_sub hl [1, 2, 3, 0] rfl)
          refine lv_if_ge (tgt := 91) hx hb dX14_part_84 (by decide) (fun c_48 => ?_) (fun c_48 => ?_)
          · skip
            have c_48' : r_20.toInt ≥ 0 := jb_ge (rfl) ((by decide)) c_48
            refine lv_iload hx hb dX14_part_91 (lv_at hl 5 rfl) ?_
            exact C93 r_20 _ _ hh_26 (⟨(by first | omega | rfl | assumption | (unfold jEn; rw [if_pos (by omega)]) | (unfold jEn; rw [if_neg (by omega)]; omega)), (by first | omega | rfl | assumption | (unfold jEn; rw [if_pos (by omega)]) | (unfold jEn; rw [if_neg (by omega)]; omega)), (by first | omega | rfl | assumption | (unfold jEn; rw [if_pos (by omega)]) | (unfold jEn; rw [if_neg (by omega)]; omega))⟩) _ (lv_sub hl [0, 1, 2, 3, 4, 5] rfl)
          · skip
            have c_48' : r_20.toInt < 0 := jb_ge_n (rfl) ((by decide)) c_48
            refine lv_iload_n hx hb dX14_part_87 rfl (lv_at hl 2 rfl) ?_
            refine lv_goto (tgt := 93) hx hb dX14_part_88 (by decide) ?_
            exact C93 pz _ _ hh_26 (⟨(by first | omega | rfl | assumption | (unfold jEn; rw [if_pos (by omega)]) | (unfold jEn; rw [if_neg (by omega)]; omega)), (by first | omega | rfl | assumption | (unfold jEn; rw [if_pos (by omega)]) | (unfold jEn; rw [if_neg (by omega)]; omega)), (by first | omega | rfl | assumption | (unfold jEn; rw [if_pos (by omega)]) | (unfold jEn; rw [if_neg (by omega)]; omega))⟩) _ (lv_sub hl [0, 1, 2, 3, 4, 5] rfl)
        refine lv_if_ge (tgt := 74) hx hb dX14_part_67 (by decide) (fun c_49 => ?_) (fun c_49 => ?_)
        · skip
          have c_49' : r_20.toInt ≥ 0 := jb_ge (rfl) ((by decide)) c_49
          first | (have hr_20_3q := hr_20_3.resolve_left (by omega); clear hr_20_3) | (have hr_20_3q := hr_20_3.resolve_right (by omega); clear hr_20_3) | skip
          refine lv_iconst (v := 0) hx hb dX14_part_74 (by decide) ?_
          exact C75 0 _ _ hh_19 (Or.inl rfl) (⟨(by first | omega | rfl | assumption | (rw [if_pos (by omega)]) | (rw [if_neg (by omega)])), (by first | omega | rfl | assumption | (rw [if_pos (by omega)]) | (rw [if_neg (by omega)]))⟩) _ (lv_sub hl [2, 3, 4, 5, 1, 0] rfl)
        · skip
          have c_49' : r_20.toInt < 0 := jb_ge_n (rfl) ((by decide)) c_49
          first | (have hr_20_3q := hr_20_3.resolve_left (by omega); clear hr_20_3) | (have hr_20_3q := hr_20_3.resolve_right (by omega); clear hr_20_3) | skip
          refine lv_iconst (v := 1) hx hb dX14_part_70 (by decide) ?_
          refine lv_goto (tgt := 75) hx hb dX14_part_71 (by decide) ?_
          exact C75 1 _ _ hh_19 (Or.inr rfl) (⟨(by first | omega | rfl | assumption | (rw [if_pos (by omega)]) | (rw [if_neg (by omega)])), (by first | omega | rfl | assumption | (rw [if_pos (by omega)]) | (rw [if_neg (by omega)]))⟩) _ (lv_sub hl [2, 3, 4, 5, 1, 0] rfl)
  exact L22 (pz.toInt - (r_6 : Int32).toInt : Int).toNat.succ r_6 0 fb fe fl ((pz.toInt - jGap ft pz.toInt 0).toNat + 2) _ _ (hh_5.sub (L1 := [(r0, 14, 5, .int 0), (r0, 14, 3, .ref yt), (r0, 14, 4, .int pz), (r0, 14, 6, .ref yb), (r0, 14, 7, .ref ye), (r0, 14, 8, .ref yl)]) [0, 1, 2, 3, 4, 5] rfl (M1 := [(yl, 192, 40, ca 1, fl), (ye, 191, 40, ca 1, fe), (yb, 190, 40, ca 1, fb), (yt, 194, 1500, ca 1, ft)]) [3, 2, 1, 0] rfl (I1 := [(jFxd, jXD dC dI ca G0 (some r0) fq)]) [0] rfl) (by refine ⟨by omega, by omega, by omega, by omega, by omega, by omega, ?_, ?_, ?_, ?_, ?_⟩; (rw [hr_6_0, hk0]; rfl); (rw [hk0]; exact jSrt.nil _ _ _); (rw [hk0]; exact jcP.nil); (rw [hk0]; exact jcPf.nil); exact Or.inl hr_6_0) (by omega) _ (lv_sub hl [3, 2, 1, 0] rfl)
end
section
-- p8: sentences that stay as they were (the reference)
theorem jcU.eqv {f g : Nat → Int32} {n m b c z : Int} {k : Nat} (h1 : jcE f n k - jcB f n k = z) (h2 : jcE g m k - jcB g m k = z) (hb : b = jcB f n k) (hc : c = jcB g m k) (hx : ∀ x : Int, 0 ≤ x → x < z → jSo f (b + x) = jSo g (c + x)) : jcU f n k = jcU g m k := by
  subst hb hc
  unfold jcU
  rw [h1, h2]
  exact jcL.cg _ _ _ (fun x x0 x1 => hx x x0 (by omega))
/-- all documents but two are as they were -/
def jrO (t u : jDtr) (a b : Nat) : Prop := ∀ x, x ≠ a → x ≠ b → u.ve x = t.ve x ∧ u.ln x = t.ln x ∧ u.tx x = t.tx x ∧ u.ul x = t.ul x ∧ u.ux x = t.ux x
def jrP (q p : jXg) (a b : Nat) : Prop := ∀ x, x ≠ a → x ≠ b → p.sn x = q.sn x ∧ p.ck x = q.ck x ∧ p.sb x = q.sb x ∧ p.se x = q.se x ∧ p.sf x = q.sf x
theorem jrO.pp {t : jDtr} {a b : Nat} {v l u v1 l1 u1 : Int32} {f g f1 g1 : Nat → Int32} : jrO t ((t.put a v l f u g).put b v1 l1 f1 u1 g1) a b := fun x h1 h2 => by
  obtain ⟨e1, e2, e3, e4, e5⟩ := jDtr.pn (t := t.put a v l f u g) (v := v1) (l := l1) (u := u1) (f := f1) (g := g1) h2
  obtain ⟨d1, d2, d3, d4, d5⟩ := jDtr.pn (t := t) (v := v) (l := l) (u := u) (f := f) (g := g) h1
  exact ⟨e1.trans d1, e2.trans d2, e3.trans d3, e4.trans d4, e5.trans d5⟩
theorem jrP.pp {q : jXg} {a b : Nat} {s c s1 c1 : Int32} {f g h f1 g1 h1 : Nat → Int32} : jrP q ((q.put a s c f g h).put b s1 c1 f1 g1 h1) a b := fun x k1 k2 => by
  obtain ⟨e1, e2, e3, e4, e5⟩ := jXg.pn (q := q.put a s c f g h) (sn := s1) (ck := c1) (sb := f1) (se := g1) (sf := h1) k2
  obtain ⟨d1, d2, d3, d4, d5⟩ := jXg.pn (q := q) (sn := s) (ck := c) (sb := f) (se := g) (sf := h) k1
  exact ⟨e1.trans d1, e2.trans d2, e3.trans d3, e4.trans d4, e5.trans d5⟩
theorem jrH.st {co : Nat → Option Nat} {cs : Nat → Int32} {x : Nat} {st k : Int} (e : k = 0) : jrH co co cs x st k := fun w _ => by rw [if_neg (by omega)]
theorem jrH.k {co c1 : Nat → Option Nat} {cs : Nat → Int32} {x : Nat} {st k k1 : Int} (h : jrH co c1 cs x st k) (h0 : 0 ≤ k) (hn : ¬ (c1 k.toNat = some x ∧ st ≤ jSo cs k)) (h2 : k < 2) (e : k1 = k + 1) : jrH co c1 cs x st k1 := fun w hw => by
  subst e
  by_cases q : (w : Int) = k
  · have e1 := h w hw
    rw [if_neg (by omega)] at e1
    have e2 : k.toNat = w := by omega
    rw [e2, e1, ← q] at hn
    rw [e1, if_neg (fun z => hn z.2)]
  · rw [h w hw]
    by_cases z : (w : Int) < k ∧ co w = some x ∧ st ≤ jSo cs w
    · rw [if_pos z, if_pos ⟨by omega, z.2⟩]
    · rw [if_neg z, if_neg (fun y => z ⟨by omega, y.2⟩)]
theorem jrH.d {co c1 c2 : Nat → Option Nat} {cs : Nat → Int32} {x : Nat} {st k k1 : Int} {i : Nat} (h : jrH co c1 cs x st k) (h0 : 0 ≤ k) (hi : (i : Int) = k) (hx : c1 k.toNat = some x) (hs : st ≤ jSo cs k) (hv : c2 i = none) (ho : ∀ j, j < 2 → j ≠ i → c2 j = c1 j) (h2 : k < 2) (e : k1 = k + 1) : jrH co c2 cs x st k1 := fun w hw => by
  subst e
  by_cases q : w = i
  · subst q
    have e1 := h w hw
    rw [if_neg (by omega)] at e1
    have e2 : k.toNat = w := by omega
    rw [e2, e1] at hx
    rw [hv, if_pos ⟨by omega, hx, by rw [hi]; exact hs⟩]
  · rw [ho w hw q, h w hw]
    by_cases z : (w : Int) < k ∧ co w = some x ∧ st ≤ jSo cs w
    · rw [if_pos z, if_pos ⟨by omega, z.2⟩]
    · rw [if_neg z, if_neg (fun y => z ⟨by omega, y.2⟩)]
/-- a document that was parted anew: st of its sentences stay -/
def jrC (f : Nat → Int32) (n : Int) (q p : jXg) (x : Nat) (st : Int) : Prop := ∃ (sn ck : Int32) (sb se sf : Nat → Int32), p = q.put x sn ck sb se sf ∧ sn.toInt = jPar f n ∧ jcP f n sb se sn.toInt ∧ jcPf f n sf sn.toInt ∧ ck.toInt = (if st < (q.ck x).toInt then st else (q.ck x).toInt) ∧ jSrt sb se sn.toInt 1500 ∧ 0 ≤ sn.toInt ∧ sn.toInt ≤ 40
theorem jrC.mk {f : Nat → Int32} {n st : Int} {q p : jXg} {x : Nat} {sn ck : Int32} {sb se sf : Nat → Int32} (h1 : p = q.put x sn ck sb se sf) (h2 : sn.toInt = jPar f n) (h3 : jcP f n sb se sn.toInt) (h4 : jcPf f n sf sn.toInt) (h5 : (st < (q.ck x).toInt ∧ ck.toInt = st) ∨ ((q.ck x).toInt ≤ st ∧ ck = q.ck x)) (h6 : jSrt sb se sn.toInt 1500) (h7 : 0 ≤ sn.toInt) (h8 : sn.toInt ≤ 40) : jrC f n q p x st := by
  refine ⟨sn, ck, sb, se, sf, h1, h2, h3, h4, ?_, h6, h7, h8⟩
  rcases h5 with ⟨a, b⟩ | ⟨a, b⟩
  · rw [if_pos a, b]
  · rw [if_neg (by omega), b]
end
