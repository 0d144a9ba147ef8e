section
def EX14_partD : List (Nat × Nat) := [(14, 5), (190, 0), (191, 0), (192, 0)]
set_option maxHeartbeats 4000000 in
set_option maxRecDepth 20000 in
theorem uX14_partD (l : Launch) (dC : Nat → ClassId) (dI : Nat → Nat → Nat) (ca : Nat → ClassId) (base : Nat) (B : jF) (hB : jBok B) (hAp : jAp (dC, dI)) (hB14 : ∀ n G a H, B 14 n G a H ↔ jOb (dC, dI) 14 11 (F14 n G) a H) (hB101 : ∀ n G a H, B 101 n G a H ↔ jAr (dC, dI) (ca 1) (fun j z => True) n a H) (hB190 : ∀ n G a H, B 190 n G a H ↔ jAr (dC, dI) (ca 1) (fun j z => 0 ≤ z.toInt ∧ z.toInt ≤ 1500) n a H) (hB191 : ∀ n G a H, B 191 n G a H ↔ jAr (dC, dI) (ca 1) (fun j z => 0 ≤ z.toInt ∧ z.toInt ≤ 1500) n a H) (hB192 : ∀ n G a H, B 192 n G a H ↔ jAr (dC, dI) (ca 1) (fun j z => 0 ≤ z.toInt ∧ z.toInt ≤ 2) n a H) (hB194 : ∀ n G a H, B 194 n G a H ↔ jAr (dC, dI) (ca 1) (fun j z => True) n a H) (G0 : jT) (H0 : Heap) (r0 : Nat) (yt : Nat) (pz : Int32) (yb : Nat) (ye : Nat) (sn : Nat → Int32) (ft : Nat → Int32) (fb : Nat → Int32) (fe : Nat → Int32) : Met l yX14_part (jw yX14_part cX14_part 6 none) ({ frames := 3, cells := 0, slots := 0, locals := 69 }) (va_Pc [.ref r0] (fun U => U.heap = H0 ∧ jX B base G0 [] H0 ∧ jG dC dI ca base U ∧ G0 r0 = some (14, 0) ∧ G0 yt = some (194, 1500) ∧ G0 yb = some (190, 40) ∧ G0 ye = some (191, 40) ∧ jP (dC, dI) G0 H0 [(r0, 14, 3, .ref yt), (r0, 14, 4, .int pz), (r0, 14, 6, .ref yb), (r0, 14, 7, .ref ye)] ∧ jMc (dC, dI) G0 H0 [(yt, 194, 1500, ca 1, ft), (yb, 190, 40, ca 1, fb), (ye, 191, 40, ca 1, fe)] ∧ jIs (dC, dI) G0 H0 [(jFs, jDY dC dI ca G0 (some r0) sn)] ∧ 0 ≤ pz.toInt ∧ pz.toInt ≤ 1500)) (va_Qv (S := Int32 × (Nat → Int32) × (Nat → Int32)) (fun u => u.1.toInt = jPar ft pz.toInt ∧ 0 ≤ u.1.toInt ∧ u.1.toInt ≤ 40 ∧ jSrt u.2.1 u.2.2 u.1.toInt pz.toInt) (fun u t => (jRt (dC, dI) B base G0 EX14_partD H0 [(r0, 14, 5, .int u.1)] t.heap ∧ jMc (dC, dI) G0 t.heap [(yb, 190, 40, ca 1, u.2.1), (ye, 191, 40, ca 1, u.2.2)]) ∧ jIs (dC, dI) G0 t.heap [(jFs, jDY dC dI ca G0 (some r0) sn)]) (jA base)) 0 0 (jA base) := by
  refine Met.ofW (cc := cX14_part) (maxL := 6) (ret := none) (by decide) rfl ?_
  intro p e s m args below meth c s₁ Bd hml hv
  obtain ⟨rfl, hH0, hX, hG, hg_r0, hg_yt, hg_yb, hg_ye, hP0, hM0, hI0, hp0, hp1⟩ := hv
  have hK := hG.1
  have hx := Bd.exec
  have hb := Bd.bytes
  have hr := Bd.returns
  have hts := atoms_spec (ws := (jw yX14_part cX14_part 6 none)) Bd.pre
  have htw : ∀ w ∈ jWl, w.before _ s = true := fun w h => hts w (List.mem_cons_of_mem _ h)
  have hown : s.vm.findClass RX14 = some m.cls := findClass_of_methodNamed Bd.named
  have hlocks := Bd.notSynchronized
  obtain ⟨Q, hQ⟩ : ∃ Q, Q = MQ below (va_Qv (S := Int32 × (Nat → Int32) × (Nat → Int32)) (fun u => u.1.toInt = jPar ft pz.toInt ∧ 0 ≤ u.1.toInt ∧ u.1.toInt ≤ 40 ∧ jSrt u.2.1 u.2.2 u.1.toInt pz.toInt) (fun u t => (jRt (dC, dI) B base G0 EX14_partD H0 [(r0, 14, 5, .int u.1)] t.heap ∧ jMc (dC, dI) G0 t.heap [(yb, 190, 40, ca 1, u.2.1), (ye, 191, 40, ca 1, u.2.2)]) ∧ jIs (dC, dI) G0 t.heap [(jFs, jDY dC dI ca G0 (some r0) sn)]) (jA base)) ([.ref r0] : List Value).toArray s 0 0 (jA base) := ⟨_, rfl⟩
  rw [← hQ]
  have hl := lv_entry ([.ref r0]) (n := 6) (Nat.le_of_ble_eq_true rfl)
  rw [lg_entry_eq]
  generalize (lg_sl ([.ref r0]) ++ List.replicate (6 - (lg_sl ([.ref r0])).length) Slot.unset).toArray = ls at hl ⊢
  have hl : lv_has ls 6 [(0, .ref r0)] := hl
  generalize hR : (headSpec (jw yX14_part cX14_part 6 none) ({ frames := 3, cells := 0, slots := 0, locals := 69 })).room = R
  subst hH0
  have hh : jSt (dC, dI) B base G0 G0 EX14_partD s.heap 0 0 [(r0, 14, 3, .ref yt), (r0, 14, 4, .int pz), (r0, 14, 6, .ref yb), (r0, 14, 7, .ref ye)] [(yt, 194, 1500, ca 1, ft), (yb, 190, 40, ca 1, fb), (ye, 191, 40, ca 1, fe)] [(jFs, jDY dC dI ca G0 (some r0) sn)] s.heap [] := jSt.start hX hP0 hM0 hI0
  clear hX hP0
  have hk0 : (0 : Int32).toInt = 0 := by decide
  have hk1 : (1 : Int32).toInt = 1 := by decide
  have hk2 : (2 : Int32).toInt = 2 := by decide
  have hk39 : (39 : Int32).toInt = 39 := by decide
  have hly_14_3 := htw (u_lay RX12 TX12 3) (jWc_wsX120 _ (u_in_lay (by decide)))
  have hly_14_4 := htw (u_lay RX12 TX12 4) (jWc_wsX120 _ (u_in_lay (by decide)))
  have hly_14_5 := htw (u_lay RX12 TX12 5) (jWc_wsX120 _ (u_in_lay (by decide)))
  have hly_14_6 := htw (u_lay RX12 TX12 6) (jWc_wsX120 _ (u_in_lay (by decide)))
  have hly_14_7 := htw (u_lay RX12 TX12 7) (jWc_wsX120 _ (u_in_lay (by decide)))
  have hly_14_8 := htw (u_lay RX12 TX12 8) (jWc_wsX120 _ (u_in_lay (by decide)))
  have hlk_529 := (va_Nw.use (A := ([.ref r0] : List Value).toArray) rfl (hG.2.1 RX14 529 "ProofServerModel$Document" "text" "[I" "ProofServerModel" (List.mem_of_getElem? (i := 1735) (by decide +kernel))))
  have hlk_526 := (va_Nw.use (A := ([.ref r0] : List Value).toArray) rfl (hG.2.1 RX14 526 "ProofServerModel$Document" "units" "I" "ProofServerModel" (List.mem_of_getElem? (i := 1736) (by decide +kernel))))
  have hlk_587 := (va_Nw.use (A := ([.ref r0] : List Value).toArray) rfl (hG.2.1 RX14 587 "ProofServerModel$Document" "sentences" "I" "ProofServerModel" (List.mem_of_getElem? (i := 1737) (by decide +kernel))))
  have hlk_596 := (va_Nw.use (A := ([.ref r0] : List Value).toArray) rfl (hG.2.1 RX14 596 "ProofServerModel$Document" "begin" "[I" "ProofServerModel" (List.mem_of_getElem? (i := 1739) (by decide +kernel))))
  have hlk_599 := (va_Nw.use (A := ([.ref r0] : List Value).toArray) rfl (hG.2.1 RX14 599 "ProofServerModel$Document" "flaw" "[I" "ProofServerModel" (List.mem_of_getElem? (i := 1743) (by decide +kernel))))
  have hlk_594 := (va_Nw.use (A := ([.ref r0] : List Value).toArray) rfl (hG.2.1 RX14 594 "ProofServerModel$Document" "end" "[I" "ProofServerModel" (List.mem_of_getElem? (i := 1741) (by decide +kernel))))
  refine lv_aload_n hx hb dX14_part_0 rfl (lv_at hl 0 rfl) ?_
  refine j7_readN hx hb hown hK (C := RX12) (T := TX12) (N := 11) rfl hly_14_3 hlk_529 (hh.at 0 rfl) dX14_part_1 ?_
  refine lv_astore_n (lv' := [(1, .ref yt), (0, .ref r0)]) hx hb dX14_part_4 rfl hl (by decide) rfl (fun ls hl => ?_)
  refine lv_aload_n hx hb dX14_part_5 rfl (lv_at hl 1 rfl) ?_
  refine j7_readN hx hb hown hK (C := RX12) (T := TX12) (N := 11) rfl hly_14_4 hlk_526 (hh.at 1 rfl) dX14_part_6 ?_
  refine lv_istore_n (lv' := [(2, .int pz), (1, .ref yt), (0, .ref r0)]) hx hb dX14_part_9 rfl hl (by decide) rfl (fun ls hl => ?_)
  refine lv_aload_n hx hb dX14_part_10 rfl (lv_at hl 2 rfl) ?_
  refine lv_iconst (v := 0) hx hb dX14_part_11 (by decide) ?_
  have hd_2 := hh.iv 0 rfl
  have hh_3 := hh.sub (L1 := [(r0, 14, 3, .ref yt), (r0, 14, 4, .int pz), (r0, 14, 6, .ref yb), (r0, 14, 7, .ref ye)]) [0, 1, 2, 3] rfl (M1 := [(yt, 194, 1500, ca 1, ft), (yb, 190, 40, ca 1, fb), (ye, 191, 40, ca 1, fe)]) [0, 1, 2] rfl (I1 := []) [] rfl
  clear hh
  refine j7_putNX hx hb hown hK hh_3 hB hAp hB14 (C := RX12) (T := TX12) (N := 11) rfl (by decide) hg_r0 (i := 5) (by decide) hly_14_5 rfl hlk_587 rfl (ty := .int) (v := .int 0) (by decide +kernel) rfl rfl (⟨_, rfl, by omega, by omega⟩) rfl (L1 := [(r0, 14, 3, .ref yt), (r0, 14, 4, .int pz), (r0, 14, 6, .ref yb), (r0, 14, 7, .ref ye)]) [0, 1, 2, 3] rfl rfl rfl dX14_part_12 (fun H_1 locs_1 hr_1 hf_1 hh_1 => ?_)
  clear hh_3
  have hd_2n := jDY.fld hd_2 hg_r0 hr_1 hf_1
  have hh_4 := hh_1.addI (jDY.ie hd_2n)
  clear hh_1
  clear hd_2 hd_2n hr_1 hf_1
  refine lv_aload_n hx hb dX14_part_15 rfl (lv_at hl 1 rfl) ?_
  refine lv_iconst (v := 0) hx hb dX14_part_16 (by decide) ?_
  refine lv_iload_n hx hb dX14_part_17 rfl (lv_at hl 0 rfl) ?_
  refine va_calli (A0 := jA base) (H0 := s.heap) (va_runS (As := [.ref yt, .int 0, .int pz]) (rest := []) ⟨hx, hb, hml, hown, hts⟩ (uX14_behindGapsKv9 l dC dI ca base B hB hAp hB101 hB194 G0 H_1 yt 0 pz 1500 ft) (va_cwS 3 hts (jgS (jWr_57 _ (List.mem_of_getElem? (i := 13) rfl)) (jWr_57 _ (List.mem_of_getElem? (i := 14) rfl)) (jWr_1 _ (List.mem_of_getElem? (i := 5) rfl)) (jWr_57 _ (List.mem_of_getElem? (i := 15) rfl))) rfl rfl rfl (by decide +kernel) ⟨by rw [← hR]; exact Nat.le_of_ble_eq_true rfl, by rw [← hR]; exact Nat.le_of_ble_eq_true rfl⟩) ⟨fun a U g mk q => by obtain ⟨q0, q1, q2, qK, q10, q11, q12, q13⟩ := q; exact ⟨q0, q1, q2, jG.calling g mk a qK, q10, q11, q12, q13⟩, fun U hU hW => ⟨rfl, hU, hh_4.2.1, hG.step hW hU hh_4.1, hg_yt, jP.nil, (hh_4.2.2.2.2.2.2.2.1.sub (L1 := [(yt, 194, 1500, ca 1, ft)]) [0] rfl), by first | omega | (refine ⟨?_, ?_, ?_, ?_⟩ <;> (first | omega | rfl | assumption | decide | exact Or.inl rfl | exact Or.inr rfl | (simp only; omega)))⟩⟩ rfl rfl hl.1 rfl (lv_room (Nat.le_of_ble_eq_true rfl)) dX14_part_18 ⟨Nat.zero_le _, Nat.zero_le _⟩) hh_4.1 (fun q _ h => h) (fun q h => h) (fun r_6 u_5 t_5 H_5 locs_5 ht_5 hvm_5 hr_6 hb_5 hz_5 hk_5 hS_5 => ?_)
  rw [ht_5] at hb_5
  obtain ⟨hb_51, hb_52, hb_53, hb_54, hb_55⟩ := hb_5
  have hh_5 : jSt (dC, dI) B base G0 G0 EX14_partD s.heap 0 0 [(r0, 14, 5, .int 0), (r0, 14, 3, .ref yt), (r0, 14, 4, .int pz), (r0, 14, 6, .ref yb), (r0, 14, 7, .ref ye)] [(yt, 194, 1500, ca 1, ft), (yb, 190, 40, ca 1, fb), (ye, 191, 40, ca 1, fe)] [(jFs, jDY dC dI ca G0 (some r0) sn)] H_5 locs_5 := ((hh_4.call hb_51 hb_52 hb_53 hb_54 hS_5 rfl (L1 := [(r0, 14, 5, .int 0), (r0, 14, 3, .ref yt), (r0, 14, 4, .int pz), (r0, 14, 6, .ref yb), (r0, 14, 7, .ref ye)]) [0, 1, 2, 3, 4] rfl rfl (M1 := [(yt, 194, 1500, ca 1, ft), (yb, 190, 40, ca 1, fb), (ye, 191, 40, ca 1, fe)]) [0, 1, 2] rfl rfl (I1 := [(jFs, jDY dC dI ca G0 (some r0) sn)]) [0] rfl rfl).more hb_55)
  clear hh_4 ht_5 hvm_5 hz_5 hk_5 hS_5 hb_51 hb_52 hb_53 hb_54 hb_55
  obtain ⟨hr_6_0, hr_6_1, hr_6_2⟩ := hr_6
  rw [hk0] at hr_6_0
  refine lv_istore_n (lv' := [(3, .int r_6), (2, .int pz), (1, .ref yt), (0, .ref r0)]) hx hb dX14_part_21 rfl hl (by decide) rfl (fun ls hl => ?_)
  have L22 : ∀ (N : Nat) (v3_7 : Int32) (wz_7 : Int32) (fb_7 : Nat → Int32) (fe_7 : Nat → Int32) (kf : Nat) (H_7 : Heap) (locs_7 : List Loc), jSt (dC, dI) B base G0 G0 EX14_partD s.heap 0 0 [(r0, 14, 5, .int wz_7), (r0, 14, 3, .ref yt), (r0, 14, 4, .int pz), (r0, 14, 6, .ref yb), (r0, 14, 7, .ref ye)] [(ye, 191, 40, ca 1, fe_7), (yb, 190, 40, ca 1, fb_7), (yt, 194, 1500, ca 1, ft)] [(jFs, jDY dC dI ca G0 (some r0) sn)] H_7 locs_7 → (0 ≤ v3_7.toInt ∧ v3_7.toInt ≤ pz.toInt ∧ 0 ≤ wz_7.toInt ∧ wz_7.toInt ≤ 40 ∧ (v3_7.toInt = pz.toInt ∨ wz_7.toInt ≤ 39) ∧ pz.toInt - v3_7.toInt + 1 < kf ∧ jPn ft pz.toInt kf v3_7.toInt wz_7.toInt = jPar ft pz.toInt ∧ jSrt fb_7 fe_7 wz_7.toInt v3_7.toInt) → (pz.toInt - v3_7.toInt : Int) < N → ∀ ls : Array Slot, lv_has ls 6 [(0, .ref r0), (1, .ref yt), (2, .int pz), (3, .int v3_7)] → W p l e R s m ([.ref r0] : List Value).toArray below meth c H_7 locs_7 0 0 Q (F0 m 22 ls []) := by
    intro N
    induction N with
    | zero => intro v3_7 wz_7 fb_7 fe_7 kf H_7 locs_7 hh_7  hi_7 hm; exact absurd hm (by omega)
    | succ N L22 =>
      intro v3_7 wz_7 fb_7 fe_7 kf H_7 locs_7 hh_7  hi_7 hm_7 ls hl
      obtain ⟨hi_7_0, hi_7_1, hi_7_2, hi_7_3, hi_7_4, hi_7_5, hi_7_6, hi_7_7⟩ := hi_7
      refine lv_iload_n hx hb dX14_part_22 rfl (lv_at hl 3 rfl) ?_
      refine lv_iload_n hx hb dX14_part_23 rfl (lv_at hl 2 rfl) ?_
      refine lv_icmp_ge (tgt := 140) hx hb dX14_part_24 (by decide) (fun c_8 => ?_) (fun c_8 => ?_)
      · skip
        have c_8' : v3_7.toInt ≥ pz.toInt := jb_ge (rfl) (rfl) c_8
        rw [hQ]
        exact W.vret hx hb hr (fun t ht hW => ⟨⟨(wz_7, fb_7, fe_7), rfl, by (try dsimp only); refine ⟨?_, by omega, by omega, ?_⟩; exact (jPn_o (by omega) (by omega) rfl).trans hi_7_6; (have h9 := hi_7_7; exact h9.up (by omega)), ⟨⟨hh_7.rt (M1 := [(r0, 14, 5, .int wz_7)]) [0] rfl ht, by rw [ht]; exact hh_7.2.2.2.2.2.2.2.1.sub [1, 0] rfl⟩, by rw [ht]; exact hh_7.2.2.2.2.2.2.2.2.sub (L1 := [(jFs, jDY dC dI ca G0 (some r0) sn)]) [0] rfl⟩⟩, by rw [ht]; try exact hh_7.1.1, fun q h9 hq => by rw [ht]; try exact hh_7.1.2.1 q h9 hq⟩) hh_7.1.2.2 dX14_part_140
      · skip
        have c_8' : v3_7.toInt < pz.toInt := jb_ge_n (rfl) (rfl) c_8
        refine lv_aload_n hx hb dX14_part_27 rfl (lv_at hl 0 rfl) ?_
        refine j7_readN hx hb hown hK (C := RX12) (T := TX12) (N := 11) rfl hly_14_5 hlk_587 (hh_7.at 0 rfl) dX14_part_28 ?_
        refine lv_istore (lv' := [(4, .int wz_7), (0, .ref r0), (1, .ref yt), (2, .int pz), (3, .int v3_7)]) hx hb dX14_part_31 hl (by decide) rfl (fun ls hl => ?_)
        refine lv_aload_n hx hb dX14_part_33 rfl (lv_at hl 1 rfl) ?_
        refine lv_dup hx hb dX14_part_34 rfl ?_
        refine j7_readN hx hb hown hK (C := RX12) (T := TX12) (N := 11) rfl hly_14_5 hlk_587 (hh_7.at 0 rfl) dX14_part_35 ?_
        refine lv_iconst (v := 1) hx hb dX14_part_38 (by decide) ?_
        refine lv_iadd hx hb dX14_part_39 ?_
        refine lv_topi (fun z_9 ez_9 => ?_)
        have hz_9 : z_9.toInt = wz_7.toInt + 1 := by rw [ez_9]; exact jb_iadd2 (rfl) ((by decide)) (by omega)
        have hd_11 := hh_7.iv 0 rfl
        have hh_12 := hh_7.sub (L1 := [(r0, 14, 5, .int wz_7), (r0, 14, 3, .ref yt), (r0, 14, 4, .int pz), (r0, 14, 6, .ref yb), (r0, 14, 7, .ref ye)]) [0, 1, 2, 3, 4] rfl (M1 := [(ye, 191, 40, ca 1, fe_7), (yb, 190, 40, ca 1, fb_7), (yt, 194, 1500, ca 1, ft)]) [0, 1, 2] rfl (I1 := []) [] rfl
        clear hh_7
        refine j7_putNX hx hb hown hK hh_12 hB hAp hB14 (C := RX12) (T := TX12) (N := 11) rfl (by decide) hg_r0 (i := 5) (by decide) hly_14_5 rfl hlk_587 rfl (ty := .int) (v := .int z_9) (by decide +kernel) rfl rfl (⟨_, rfl, by omega, by omega⟩) rfl (L1 := [(r0, 14, 3, .ref yt), (r0, 14, 4, .int pz), (r0, 14, 6, .ref yb), (r0, 14, 7, .ref ye)]) [1, 2, 3, 4] rfl rfl rfl dX14_part_40 (fun H_10 locs_10 hr_10 hf_10 hh_10 => ?_)
        clear hh_12
        have hd_11n := jDY.fld hd_11 hg_r0 hr_10 hf_10
        have hh_13 := hh_10.addI (jDY.ie hd_11n)
        clear hh_10
        clear hd_11 hd_11n hr_10 hf_10
        refine lv_aload_n hx hb dX14_part_43 rfl (lv_at hl 1 rfl) ?_
        refine j7_readN hx hb hown hK (C := RX12) (T := TX12) (N := 11) rfl hly_14_6 hlk_596 (hh_13.at 3 rfl) dX14_part_44 ?_
        refine lv_iload hx hb dX14_part_47 (lv_at hl 0 rfl) ?_
        refine lv_iload_n hx hb dX14_part_49 rfl (lv_at hl 4 rfl) ?_
        have hd_15 := hh_13.iv 0 rfl
        have hh_16 := hh_13.sub (L1 := [(r0, 14, 5, .int z_9), (r0, 14, 3, .ref yt), (r0, 14, 4, .int pz), (r0, 14, 6, .ref yb), (r0, 14, 7, .ref ye)]) [0, 1, 2, 3, 4] rfl (M1 := [(ye, 191, 40, ca 1, fe_7), (yb, 190, 40, ca 1, fb_7), (yt, 194, 1500, ca 1, ft)]) [0, 1, 2] rfl (I1 := []) [] rfl
        clear hh_13
        have hd_15f := hh_16.at 3 rfl
        refine j7_iastX hx hb hK hh_16 hB hB190 1 rfl (by decide) (by decide) rfl 1 rfl (M1 := [(ye, 191, 40, ca 1, fe_7), (yt, 194, 1500, ca 1, ft)]) [0, 2] rfl rfl rfl hg_yb (x := wz_7.toInt) (rfl) (by omega) (by first | omega | (refine ⟨?_, ?_⟩ <;> (first | omega | rfl | assumption | decide | exact Or.inl rfl | exact Or.inr rfl | (simp only; omega)))) dX14_part_50 (fun H_14 locs_14 fs_17 hv_14 ho_14 hr_14 hh_14 => ?_)
        have hv_14 : jSo fs_17 (wz_7.toInt) = v3_7.toInt := by unfold jSo; rw [hv_14]; try exact rfl
        clear hh_16
        have hd_15n := jDY.arr hd_15 hg_r0 hg_yb (Or.inl ⟨rfl, hd_15f⟩) hr_14
        have hh_18 := hh_14.addI (jDY.ie hd_15n)
        clear hh_14
        clear hd_15 hd_15f hd_15n hr_14
        refine lv_aload_n hx hb dX14_part_51 rfl (lv_at hl 2 rfl) ?_
        refine lv_iload_n hx hb dX14_part_52 rfl (lv_at hl 4 rfl) ?_
        refine lv_iload_n hx hb dX14_part_53 rfl (lv_at hl 3 rfl) ?_
        refine va_calli (A0 := jA base) (H0 := s.heap) (va_runS (As := [.ref yt, .int v3_7, .int pz]) (rest := []) ⟨hx, hb, hml, hown, hts⟩ (uX14_sentenceEndKv9 l dC dI ca base B hB hAp hB101 hB194 G0 H_14 yt v3_7 pz 1500 ft) (va_cwS 3 hts (jgS (jWr_58 _ (List.mem_of_getElem? (i := 4) rfl)) (jWr_58 _ (List.mem_of_getElem? (i := 5) rfl)) (jWr_1 _ (List.mem_of_getElem? (i := 5) rfl)) (jWr_58 _ (List.mem_of_getElem? (i := 6) rfl))) rfl rfl rfl (by decide +kernel) ⟨by rw [← hR]; exact Nat.le_of_ble_eq_true rfl, by rw [← hR]; exact Nat.le_of_ble_eq_true rfl⟩) ⟨fun a U g mk q => by obtain ⟨q0, q1, q2, qK, q10, q11, q12, q13⟩ := q; exact ⟨q0, q1, q2, jG.calling g mk a qK, q10, q11, q12, q13⟩, fun U hU hW => ⟨rfl, hU, hh_18.2.1, hG.step hW hU hh_18.1, hg_yt, jP.nil, (hh_18.2.2.2.2.2.2.2.1.sub (L1 := [(yt, 194, 1500, ca 1, ft)]) [2] rfl), by first | omega | (refine ⟨?_, ?_, ?_, ?_⟩ <;> (first | omega | rfl | assumption | decide | exact Or.inl rfl | exact Or.inr rfl | (simp only; omega)))⟩⟩ rfl rfl hl.1 rfl (lv_room (Nat.le_of_ble_eq_true rfl)) dX14_part_54 ⟨Nat.zero_le _, Nat.zero_le _⟩) hh_18.1 (fun q _ h => h) (fun q h => h) (fun r_20 u_19 t_19 H_19 locs_19 ht_19 hvm_19 hr_20 hb_19 hz_19 hk_19 hS_19 => ?_)
        rw [ht_19] at hb_19
        obtain ⟨hb_191, hb_192, hb_193, hb_194, hb_195⟩ := hb_19
        have hh_19 : jSt (dC, dI) B base G0 G0 EX14_partD s.heap 0 0 [(r0, 14, 5, .int z_9), (r0, 14, 3, .ref yt), (r0, 14, 4, .int pz), (r0, 14, 6, .ref yb), (r0, 14, 7, .ref ye)] [(yb, 190, 40, ca 1, fs_17), (ye, 191, 40, ca 1, fe_7), (yt, 194, 1500, ca 1, ft)] [(jFs, jDY dC dI ca G0 (some r0) sn)] H_19 locs_19 := ((hh_18.call hb_191 hb_192 hb_193 hb_194 hS_19 rfl (L1 := [(r0, 14, 5, .int z_9), (r0, 14, 3, .ref yt), (r0, 14, 4, .int pz), (r0, 14, 6, .ref yb), (r0, 14, 7, .ref ye)]) [0, 1, 2, 3, 4] rfl rfl (M1 := [(yb, 190, 40, ca 1, fs_17), (ye, 191, 40, ca 1, fe_7), (yt, 194, 1500, ca 1, ft)]) [0, 1, 2] rfl rfl (I1 := [(jFs, jDY dC dI ca G0 (some r0) sn)]) [0] rfl rfl).more hb_195)
        clear hh_18 ht_19 hvm_19 hz_19 hk_19 hS_19 hb_191 hb_192 hb_193 hb_194 hb_195
        obtain ⟨hr_20_0, hr_20_1, hr_20_2, hr_20_3⟩ := hr_20
        refine lv_istore (lv' := [(5, .int r_20), (4, .int wz_7), (0, .ref r0), (1, .ref yt), (2, .int pz), (3, .int v3_7)]) hx hb dX14_part_57 hl (by decide) rfl (fun ls hl => ?_)
        refine lv_aload_n hx hb dX14_part_59 rfl (lv_at hl 2 rfl) ?_
        obtain ⟨v_21, hv_21, hh_22⟩ := hh_19.pin (C := RX12) (T := TX12) (N := 11) hB14 rfl (by decide) hg_r0 (i := 8) (by decide) rfl
        clear hh_19
        obtain ⟨flaw_23, rfl, hg_flaw_23⟩ := hv_21
        refine j7_readN hx hb hown hK (C := RX12) (T := TX12) (N := 11) rfl hly_14_8 hlk_599 (hh_22.at 0 rfl) dX14_part_60 ?_
        refine lv_iload hx hb dX14_part_63 (lv_at hl 1 rfl) ?_
        refine lv_iload hx hb dX14_part_65 (lv_at hl 0 rfl) ?_
        have C75 : ∀ (w0_24 : Int32) (H_24 : Heap) (locs_24 : List Loc), jSt (dC, dI) B base G0 G0 EX14_partD s.heap 0 0 [(r0, 14, 8, .ref flaw_23), (r0, 14, 5, .int z_9), (r0, 14, 3, .ref yt), (r0, 14, 4, .int pz), (r0, 14, 6, .ref yb), (r0, 14, 7, .ref ye)] [(yb, 190, 40, ca 1, fs_17), (ye, 191, 40, ca 1, fe_7), (yt, 194, 1500, ca 1, ft)] [(jFs, jDY dC dI ca G0 (some r0) sn)] H_24 locs_24 → (w0_24 = 0 ∨ w0_24 = 1) → (0 ≤ w0_24.toInt ∧ w0_24.toInt ≤ 1 ∧ (r_20.toInt = -1 ∨ v3_7.toInt < r_20.toInt)) → ∀ ls : Array Slot, lv_has ls 6 [(0, .ref r0), (1, .ref yt), (2, .int pz), (3, .int v3_7), (4, .int wz_7), (5, .int r_20)] → W p l e R s m ([.ref r0] : List Value).toArray below meth c H_24 locs_24 0 0 Q (F0 m 75 ls [.int w0_24, .int wz_7, .ref flaw_23]) := by
          intro w0_24 H_24 locs_24 hh_24 hb_w0_24 hi_24 ls hl
          obtain ⟨hi_24_0, hi_24_1, hi_24_2⟩ := hi_24
          have hb_w0_24' := jb_01 hb_w0_24
          try clear hr_20_3
          refine j7_iast hx hb hK hh_24 hB hB192 1 rfl (by decide) (by decide) rfl rfl rfl hg_flaw_23 (x := wz_7.toInt) (rfl) (by omega) (by first | omega | (refine ⟨?_, ?_⟩ <;> (first | omega | rfl | assumption | decide | exact Or.inl rfl | exact Or.inr rfl | (simp only; omega)))) dX14_part_75 (fun H_25 locs_25 hh_25 => ?_)
          clear hh_24
          refine lv_aload_n hx hb dX14_part_76 rfl (lv_at hl 0 rfl) ?_
          refine j7_readN hx hb hown hK (C := RX12) (T := TX12) (N := 11) rfl hly_14_7 hlk_594 (hh_25.at 5 rfl) dX14_part_77 ?_
          refine lv_iload hx hb dX14_part_80 (lv_at hl 4 rfl) ?_
          refine lv_iload hx hb dX14_part_82 (lv_at hl 5 rfl) ?_
          have C93 : ∀ (w0_26 : Int32) (H_26 : Heap) (locs_26 : List Loc), jSt (dC, dI) B base G0 G0 EX14_partD s.heap 0 0 [(r0, 14, 8, .ref flaw_23), (r0, 14, 5, .int z_9), (r0, 14, 3, .ref yt), (r0, 14, 4, .int pz), (r0, 14, 6, .ref yb), (r0, 14, 7, .ref ye)] [(yb, 190, 40, ca 1, fs_17), (ye, 191, 40, ca 1, fe_7), (yt, 194, 1500, ca 1, ft)] [(jFs, jDY dC dI ca G0 (some r0) sn)] H_26 locs_26 → (w0_26.toInt = jEn ft pz.toInt v3_7.toInt ∧ v3_7.toInt < w0_26.toInt ∧ w0_26.toInt ≤ pz.toInt) → ∀ ls : Array Slot, lv_has ls 6 [(0, .ref r0), (1, .ref yt), (2, .int pz), (3, .int v3_7), (4, .int wz_7), (5, .int r_20)] → W p l e R s m ([.ref r0] : List Value).toArray below meth c H_26 locs_26 0 0 Q (F0 m 93 ls [.int w0_26, .int wz_7, .ref ye]) := by
            intro w0_26 H_26 locs_26 hh_26  hi_26 ls hl
            obtain ⟨hi_26_0, hi_26_1, hi_26_2⟩ := hi_26
            have hd_28 := hh_26.iv 0 rfl
            have hh_29 := hh_26.sub (L1 := [(r0, 14, 8, .ref flaw_23), (r0, 14, 5, .int z_9), (r0, 14, 3, .ref yt), (r0, 14, 4, .int pz), (r0, 14, 6, .ref yb), (r0, 14, 7, .ref ye)]) [0, 1, 2, 3, 4, 5] rfl (M1 := [(yb, 190, 40, ca 1, fs_17), (ye, 191, 40, ca 1, fe_7), (yt, 194, 1500, ca 1, ft)]) [0, 1, 2] rfl (I1 := []) [] rfl
            clear hh_26
            have hd_28f := hh_29.at 5 rfl
            refine j7_iastX hx hb hK hh_29 hB hB191 1 rfl (by decide) (by decide) rfl 1 rfl (M1 := [(yb, 190, 40, ca 1, fs_17), (yt, 194, 1500, ca 1, ft)]) [0, 2] rfl rfl rfl hg_ye (x := wz_7.toInt) (rfl) (by omega) (by first | omega | (refine ⟨?_, ?_⟩ <;> (first | omega | rfl | assumption | decide | exact Or.inl rfl | exact Or.inr rfl | (simp only; omega)))) dX14_part_93 (fun H_27 locs_27 fs_30 hv_27 ho_27 hr_27 hh_27 => ?_)
            have hv_27 : jSo fs_30 (wz_7.toInt) = w0_26.toInt := by unfold jSo; rw [hv_27]; try exact rfl
            clear hh_29
            have hd_28n := jDY.arr hd_28 hg_r0 hg_ye (Or.inr ⟨rfl, hd_28f⟩) hr_27
            have hh_31 := hh_27.addI (jDY.ie hd_28n)
            clear hh_27
            clear hd_28 hd_28f hd_28n hr_27
            refine lv_aload_n hx hb dX14_part_94 rfl (lv_at hl 1 rfl) ?_
            refine lv_aload_n hx hb dX14_part_95 rfl (lv_at hl 0 rfl) ?_
            refine j7_readN hx hb hown hK (C := RX12) (T := TX12) (N := 11) rfl hly_14_7 hlk_594 (hh_31.at 5 rfl) dX14_part_96 ?_
            refine lv_iload hx hb dX14_part_99 (lv_at hl 4 rfl) ?_
            refine j7_ialdM hx hb hK hh_31 hB191 1 rfl (by decide) hg_ye (x := wz_7.toInt) (rfl) (by omega) (j := 0) rfl dX14_part_101 (fun z_32 ez_32 (hz_32 : 0 ≤ z_32.toInt ∧ z_32.toInt ≤ 1500) => ?_)
            have hqz_32 : z_32.toInt = jSo fs_30 (wz_7.toInt) := by unfold jSo; rw [ez_32]
            refine lv_iload_n hx hb dX14_part_102 rfl (lv_at hl 2 rfl) ?_
            refine va_calli (A0 := jA base) (H0 := s.heap) (va_runS (As := [.ref yt, .int z_32, .int pz]) (rest := []) ⟨hx, hb, hml, hown, hts⟩ (uX14_behindGapsKv9 l dC dI ca base B hB hAp hB101 hB194 G0 H_27 yt z_32 pz 1500 ft) (va_cwS 3 hts (jgS (jWr_57 _ (List.mem_of_getElem? (i := 13) rfl)) (jWr_57 _ (List.mem_of_getElem? (i := 14) rfl)) (jWr_1 _ (List.mem_of_getElem? (i := 5) rfl)) (jWr_57 _ (List.mem_of_getElem? (i := 15) rfl))) rfl rfl rfl (by decide +kernel) ⟨by rw [← hR]; exact Nat.le_of_ble_eq_true rfl, by rw [← hR]; exact Nat.le_of_ble_eq_true rfl⟩) ⟨fun a U g mk q => by obtain ⟨q0, q1, q2, qK, q10, q11, q12, q13⟩ := q; exact ⟨q0, q1, q2, jG.calling g mk a qK, q10, q11, q12, q13⟩, fun U hU hW => ⟨rfl, hU, hh_31.2.1, hG.step hW hU hh_31.1, hg_yt, jP.nil, (hh_31.2.2.2.2.2.2.2.1.sub (L1 := [(yt, 194, 1500, ca 1, ft)]) [2] rfl), by first | omega | (refine ⟨?_, ?_, ?_, ?_⟩ <;> (first | omega | rfl | assumption | decide | exact Or.inl rfl | exact Or.inr rfl | (simp only; omega)))⟩⟩ rfl rfl hl.1 rfl (lv_room (Nat.le_of_ble_eq_true rfl)) dX14_part_103 ⟨Nat.zero_le _, Nat.zero_le _⟩) hh_31.1 (fun q _ h => h) (fun q h => h) (fun r_34 u_33 t_33 H_33 locs_33 ht_33 hvm_33 hr_34 hb_33 hz_33 hk_33 hS_33 => ?_)
            rw [ht_33] at hb_33
            obtain ⟨hb_331, hb_332, hb_333, hb_334, hb_335⟩ := hb_33
            have hh_33 : jSt (dC, dI) B base G0 G0 EX14_partD s.heap 0 0 [(r0, 14, 8, .ref flaw_23), (r0, 14, 5, .int z_9), (r0, 14, 3, .ref yt), (r0, 14, 4, .int pz), (r0, 14, 6, .ref yb), (r0, 14, 7, .ref ye)] [(ye, 191, 40, ca 1, fs_30), (yb, 190, 40, ca 1, fs_17), (yt, 194, 1500, ca 1, ft)] [(jFs, jDY dC dI ca G0 (some r0) sn)] H_33 locs_33 := ((hh_31.call hb_331 hb_332 hb_333 hb_334 hS_33 rfl (L1 := [(r0, 14, 8, .ref flaw_23), (r0, 14, 5, .int z_9), (r0, 14, 3, .ref yt), (r0, 14, 4, .int pz), (r0, 14, 6, .ref yb), (r0, 14, 7, .ref ye)]) [0, 1, 2, 3, 4, 5] rfl rfl (M1 := [(ye, 191, 40, ca 1, fs_30), (yb, 190, 40, ca 1, fs_17), (yt, 194, 1500, ca 1, ft)]) [0, 1, 2] rfl rfl (I1 := [(jFs, jDY dC dI ca G0 (some r0) sn)]) [0] rfl rfl).more hb_335)
            clear hh_31 ht_33 hvm_33 hz_33 hk_33 hS_33 hb_331 hb_332 hb_333 hb_334 hb_335
            obtain ⟨hr_34_0, hr_34_1, hr_34_2⟩ := hr_34
            refine lv_istore_n (lv' := [(3, .int r_34), (0, .ref r0), (1, .ref yt), (2, .int pz), (4, .int wz_7), (5, .int r_20)]) hx hb dX14_part_106 rfl hl (by decide) rfl (fun ls hl => ?_)
            refine lv_iload hx hb dX14_part_107 (lv_at hl 4 rfl) ?_
            refine lv_bipush (v := 39) hx hb dX14_part_109 (by decide) ?_
            refine lv_icmp_ne (tgt := 137) hx hb dX14_part_111 (by decide) (fun c_35 => ?_) (fun c_35 => ?_)
            · skip
              have c_35' : wz_7.toInt ≠ 39 := jb_ne (rfl) ((by decide)) c_35
              refine lv_goto (tgt := 22) hx hb dX14_part_137 (by decide) ?_
              exact L22 r_34 z_9 fs_17 fs_30 (kf - 1) _ _ (hh_33.sub (L1 := [(r0, 14, 5, .int z_9), (r0, 14, 3, .ref yt), (r0, 14, 4, .int pz), (r0, 14, 6, .ref yb), (r0, 14, 7, .ref ye)]) [1, 2, 3, 4, 5] rfl (M1 := [(ye, 191, 40, ca 1, fs_30), (yb, 190, 40, ca 1, fs_17), (yt, 194, 1500, ca 1, ft)]) [0, 1, 2] rfl (I1 := [(jFs, jDY dC dI ca G0 (some r0) sn)]) [0] rfl) (by refine ⟨by omega, by omega, by omega, by omega, by omega, by omega, ?_, ?_⟩; (first | exact (jPn_m (by omega) (by omega) (by omega) (by rw [hr_34_0, hqz_32, hv_27, hi_26_0]) (by omega)).trans hi_7_6 | exact (jPn_l (by omega) (by omega) (by omega) (by omega) (by omega) (by omega)).trans hi_7_6); (first | exact hi_7_7.app (jUpd.mk (n := 40) hv_14 ho_14 rfl (by omega)) (jUpd.mk (n := 40) hv_27 ho_27 rfl (by omega)) (by omega) (by omega) (by omega) (by omega) (by omega) (by omega) | exact hi_7_7.app (jUpd.mk (n := 40) hv_14 ho_14 rfl (by omega)) ((jUpd.mk (n := 40) hv_27 ho_27 rfl (by omega)).two (jUpd.mk (n := 40) (zz_none) (zz_none) rfl (by omega))) (by omega) (by omega) (by omega) (by omega) (by omega) (by omega))) (by omega) _ (lv_sub hl [1, 2, 3, 0] rfl)
            · skip
              have c_35' : wz_7.toInt = 39 := jb_ne_n (rfl) ((by decide)) c_35
              refine lv_iload_n hx hb dX14_part_114 rfl (lv_at hl 0 rfl) ?_
              refine lv_iload_n hx hb dX14_part_115 rfl (lv_at hl 3 rfl) ?_
              refine lv_icmp_ge (tgt := 137) hx hb dX14_part_116 (by decide) (fun c_36 => ?_) (fun c_36 => ?_)
              · skip
                have c_36' : r_34.toInt ≥ pz.toInt := jb_ge (rfl) (rfl) c_36
                refine lv_goto (tgt := 22) hx hb dX14_part_137 (by decide) ?_
                exact L22 r_34 z_9 fs_17 fs_30 (kf - 1) _ _ (hh_33.sub (L1 := [(r0, 14, 5, .int z_9), (r0, 14, 3, .ref yt), (r0, 14, 4, .int pz), (r0, 14, 6, .ref yb), (r0, 14, 7, .ref ye)]) [1, 2, 3, 4, 5] rfl (M1 := [(ye, 191, 40, ca 1, fs_30), (yb, 190, 40, ca 1, fs_17), (yt, 194, 1500, ca 1, ft)]) [0, 1, 2] rfl (I1 := [(jFs, jDY dC dI ca G0 (some r0) sn)]) [0] rfl) (by refine ⟨by omega, by omega, by omega, by omega, by omega, by omega, ?_, ?_⟩; (first | exact (jPn_m (by omega) (by omega) (by omega) (by rw [hr_34_0, hqz_32, hv_27, hi_26_0]) (by omega)).trans hi_7_6 | exact (jPn_l (by omega) (by omega) (by omega) (by omega) (by omega) (by omega)).trans hi_7_6); (first | exact hi_7_7.app (jUpd.mk (n := 40) hv_14 ho_14 rfl (by omega)) (jUpd.mk (n := 40) hv_27 ho_27 rfl (by omega)) (by omega) (by omega) (by omega) (by omega) (by omega) (by omega) | exact hi_7_7.app (jUpd.mk (n := 40) hv_14 ho_14 rfl (by omega)) ((jUpd.mk (n := 40) hv_27 ho_27 rfl (by omega)).two (jUpd.mk (n := 40) (zz_none) (zz_none) rfl (by omega))) (by omega) (by omega) (by omega) (by omega) (by omega) (by omega))) (by omega) _ (lv_sub hl [1, 2, 3, 0] rfl)
              · skip
                have c_36' : r_34.toInt < pz.toInt := jb_ge_n (rfl) (rfl) c_36
                refine lv_aload_n hx hb dX14_part_119 rfl (lv_at hl 1 rfl) ?_
                refine j7_readN hx hb hown hK (C := RX12) (T := TX12) (N := 11) rfl hly_14_8 hlk_599 (hh_33.at 0 rfl) dX14_part_120 ?_
                refine lv_iload hx hb dX14_part_123 (lv_at hl 4 rfl) ?_
                refine lv_iconst (v := 2) hx hb dX14_part_125 (by decide) ?_
                refine j7_iast hx hb hK hh_33 hB hB192 1 rfl (by decide) (by decide) rfl rfl rfl hg_flaw_23 (x := wz_7.toInt) (rfl) (by omega) (by first | omega | (refine ⟨?_, ?_⟩ <;> (first | omega | rfl | assumption | decide | exact Or.inl rfl | exact Or.inr rfl | (simp only; omega)))) dX14_part_126 (fun H_37 locs_37 hh_37 => ?_)
                clear hh_33
                refine lv_aload_n hx hb dX14_part_127 rfl (lv_at hl 1 rfl) ?_
                refine j7_readN hx hb hown hK (C := RX12) (T := TX12) (N := 11) rfl hly_14_7 hlk_594 (hh_37.at 5 rfl) dX14_part_128 ?_
                refine lv_iload hx hb dX14_part_131 (lv_at hl 4 rfl) ?_
                refine lv_iload_n hx hb dX14_part_133 rfl (lv_at hl 3 rfl) ?_
                have hd_39 := hh_37.iv 0 rfl
                have hh_40 := hh_37.sub (L1 := [(r0, 14, 8, .ref flaw_23), (r0, 14, 5, .int z_9), (r0, 14, 3, .ref yt), (r0, 14, 4, .int pz), (r0, 14, 6, .ref yb), (r0, 14, 7, .ref ye)]) [0, 1, 2, 3, 4, 5] rfl (M1 := [(ye, 191, 40, ca 1, fs_30), (yb, 190, 40, ca 1, fs_17), (yt, 194, 1500, ca 1, ft)]) [0, 1, 2] rfl (I1 := []) [] rfl
                clear hh_37
                have hd_39f := hh_40.at 5 rfl
                refine j7_iastX hx hb hK hh_40 hB hB191 1 rfl (by decide) (by decide) rfl 0 rfl (M1 := [(yb, 190, 40, ca 1, fs_17), (yt, 194, 1500, ca 1, ft)]) [1, 2] rfl rfl rfl hg_ye (x := wz_7.toInt) (rfl) (by omega) (by first | omega | (refine ⟨?_, ?_⟩ <;> (first | omega | rfl | assumption | decide | exact Or.inl rfl | exact Or.inr rfl | (simp only; omega)))) dX14_part_134 (fun H_38 locs_38 fs_41 hv_38 ho_38 hr_38 hh_38 => ?_)
                have hv_38 : jSo fs_41 (wz_7.toInt) = pz.toInt := by unfold jSo; rw [hv_38]; try exact rfl
                clear hh_40
                have hd_39n := jDY.arr hd_39 hg_r0 hg_ye (Or.inr ⟨rfl, hd_39f⟩) hr_38
                have hh_42 := hh_38.addI (jDY.ie hd_39n)
                clear hh_38
                clear hd_39 hd_39f hd_39n hr_38
                refine lv_iload_n hx hb dX14_part_135 rfl (lv_at hl 3 rfl) ?_
                refine lv_istore_n (lv' := [(3, .int pz), (0, .ref r0), (1, .ref yt), (2, .int pz), (4, .int wz_7), (5, .int r_20)]) hx hb dX14_part_136 rfl hl (by decide) rfl (fun ls hl => ?_)
                refine lv_goto (tgt := 22) hx hb dX14_part_137 (by decide) ?_
                exact L22 pz z_9 fs_17 fs_41 (kf - 1) _ _ (hh_42.sub (L1 := [(r0, 14, 5, .int z_9), (r0, 14, 3, .ref yt), (r0, 14, 4, .int pz), (r0, 14, 6, .ref yb), (r0, 14, 7, .ref ye)]) [1, 2, 3, 4, 5] rfl (M1 := [(ye, 191, 40, ca 1, fs_41), (yb, 190, 40, ca 1, fs_17), (yt, 194, 1500, ca 1, ft)]) [0, 1, 2] rfl (I1 := [(jFs, jDY dC dI ca G0 (some r0) sn)]) [0] rfl) (by refine ⟨by omega, by omega, by omega, by omega, by omega, by omega, ?_, ?_⟩; (first | exact (jPn_m (by omega) (by omega) (by omega) (by rw [hr_34_0, hqz_32, hv_27, hi_26_0]) (by omega)).trans hi_7_6 | exact (jPn_l (by omega) (by omega) (by omega) (by omega) (by omega) (by omega)).trans hi_7_6); (first | exact hi_7_7.app (jUpd.mk (n := 40) hv_14 ho_14 rfl (by omega)) (jUpd.mk (n := 40) hv_27 ho_27 rfl (by omega)) (by omega) (by omega) (by omega) (by omega) (by omega) (by omega) | exact hi_7_7.app (jUpd.mk (n := 40) hv_14 ho_14 rfl (by omega)) ((jUpd.mk (n := 40) hv_27 ho_27 rfl (by omega)).two (jUpd.mk (n := 40) hv_38 ho_38 rfl (by omega))) (by omega) (by omega) (by omega) (by omega) (by omega) (by omega))) (by omega) _ (lv_sub hl [1, 2, 3, 0] rfl)
          refine lv_if_ge (tgt := 91) hx hb dX14_part_84 (by decide) (fun c_43 => ?_) (fun c_43 => ?_)
          · skip
            have c_43' : r_20.toInt ≥ 0 := jb_ge (rfl) ((by decide)) c_43
            refine lv_iload hx hb dX14_part_91 (lv_at hl 5 rfl) ?_
            exact C93 r_20 _ _ hh_25 (⟨(by first | omega | rfl | assumption | (unfold jEn; rw [if_pos (by omega)]) | (unfold jEn; rw [if_neg (by omega)]; omega)), (by first | omega | rfl | assumption | (unfold jEn; rw [if_pos (by omega)]) | (unfold jEn; rw [if_neg (by omega)]; omega)), (by first | omega | rfl | assumption | (unfold jEn; rw [if_pos (by omega)]) | (unfold jEn; rw [if_neg (by omega)]; omega))⟩) _ (lv_sub hl [0, 1, 2, 3, 4, 5] rfl)
          · skip
            have c_43' : r_20.toInt < 0 := jb_ge_n (rfl) ((by decide)) c_43
            refine lv_iload_n hx hb dX14_part_87 rfl (lv_at hl 2 rfl) ?_
            refine lv_goto (tgt := 93) hx hb dX14_part_88 (by decide) ?_
            exact C93 pz _ _ hh_25 (⟨(by first | omega | rfl | assumption | (unfold jEn; rw [if_pos (by omega)]) | (unfold jEn; rw [if_neg (by omega)]; omega)), (by first | omega | rfl | assumption | (unfold jEn; rw [if_pos (by omega)]) | (unfold jEn; rw [if_neg (by omega)]; omega)), (by first | omega | rfl | assumption | (unfold jEn; rw [if_pos (by omega)]) | (unfold jEn; rw [if_neg (by omega)]; omega))⟩) _ (lv_sub hl [0, 1, 2, 3, 4, 5] rfl)
        refine lv_if_ge (tgt := 74) hx hb dX14_part_67 (by decide) (fun c_44 => ?_) (fun c_44 => ?_)
        · skip
          have c_44' : r_20.toInt ≥ 0 := jb_ge (rfl) ((by decide)) c_44
          first | (have hr_20_3q := hr_20_3.resolve_left (by omega); clear hr_20_3) | (have hr_20_3q := hr_20_3.resolve_right (by omega); clear hr_20_3) | skip
          refine lv_iconst (v := 0) hx hb dX14_part_74 (by decide) ?_
          exact C75 0 _ _ hh_22 (Or.inl rfl) (by first | omega | (refine ⟨?_, ?_, ?_⟩ <;> (first | omega | rfl | assumption | decide | exact Or.inl rfl | exact Or.inr rfl | (simp only; omega)))) _ (lv_sub hl [2, 3, 4, 5, 1, 0] rfl)
        · skip
          have c_44' : r_20.toInt < 0 := jb_ge_n (rfl) ((by decide)) c_44
          first | (have hr_20_3q := hr_20_3.resolve_left (by omega); clear hr_20_3) | (have hr_20_3q := hr_20_3.resolve_right (by omega); clear hr_20_3) | skip
          refine lv_iconst (v := 1) hx hb dX14_part_70 (by decide) ?_
          refine lv_goto (tgt := 75) hx hb dX14_part_71 (by decide) ?_
          exact C75 1 _ _ hh_22 (Or.inr rfl) (by first | omega | (refine ⟨?_, ?_, ?_⟩ <;> (first | omega | rfl | assumption | decide | exact Or.inl rfl | exact Or.inr rfl | (simp only; omega)))) _ (lv_sub hl [2, 3, 4, 5, 1, 0] rfl)
  exact L22 (pz.toInt - (r_6 : Int32).toInt : Int).toNat.succ r_6 0 fb fe ((pz.toInt - jGap ft pz.toInt 0).toNat + 2) _ _ (hh_5.sub (L1 := [(r0, 14, 5, .int 0), (r0, 14, 3, .ref yt), (r0, 14, 4, .int pz), (r0, 14, 6, .ref yb), (r0, 14, 7, .ref ye)]) [0, 1, 2, 3, 4] rfl (M1 := [(ye, 191, 40, ca 1, fe), (yb, 190, 40, ca 1, fb), (yt, 194, 1500, ca 1, ft)]) [2, 1, 0] rfl (I1 := [(jFs, jDY dC dI ca G0 (some r0) sn)]) [0] rfl) (by refine ⟨by omega, by omega, by omega, by omega, by omega, by omega, ?_, ?_⟩; (rw [hr_6_0, hk0]; rfl); (rw [hk0]; exact jSrt.nil _ _ _)) (by omega) _ (lv_sub hl [3, 2, 1, 0] rfl)
end
section
-- texts whose bytes are known: charAt, isText and member as functions
def jTx (fp f : Nat → Int32) (a : Int) : Nat → Int
  | 0 => 1
  | n + 1 => if jSo fp (a + n) = (jCv (f n)).toInt then jTx fp f a n else 0
theorem jTx_0 {fp f : Nat → Int32} {a : Int} {m n : Nat} (h : m < n) (he : jSo fp (a + m) ≠ (jCv (f m)).toInt) : jTx fp f a n = 0 := by
  induction n with
  | zero => omega
  | succ n ih =>
    have e : jTx fp f a (n + 1) = if jSo fp (a + n) = (jCv (f n)).toInt then jTx fp f a n else 0 := rfl
    rw [e]
    by_cases q : m = n
    · subst q; rw [if_neg he]
    · split
      · exact ih (by omega)
      · rfl
theorem jTx_1 {fp f : Nat → Int32} {a : Int} {m : Nat} (h : jTx fp f a m = 1) (he : jSo fp (a + m) = (jCv (f m)).toInt) : jTx fp f a (m + 1) = 1 := by
  have e : jTx fp f a (m + 1) = if jSo fp (a + m) = (jCv (f m)).toInt then jTx fp f a m else 0 := rfl
  rw [e, if_pos he]; exact h
def jIT (fp f : Nat → Int32) (n : Nat) (a b : Int) : Int := if b - a = n then jTx fp f a n else 0
def jMn (nf nt nx fp f : Nat → Int32) (n : Nat) : Nat → Int → Int → Int
  | 0, _, c => c
  | k + 1, m, c => if m < 0 then c else jMn nf nt nx fp f n k (jSo nx m) (if jIT fp f n (jSo nf m) (jSo nt m) = 0 then c else m)
theorem jMn_s {nf nt nx fp f : Nat → Int32} {n k : Nat} {m c m1 c1 : Int} (hk : 0 < k) (hm : 0 ≤ m) (e1 : m1 = jSo nx m) (e2 : (jIT fp f n (jSo nf m) (jSo nt m) = 0 ∧ c1 = c) ∨ (jIT fp f n (jSo nf m) (jSo nt m) ≠ 0 ∧ c1 = m)) : jMn nf nt nx fp f n (k - 1) m1 c1 = jMn nf nt nx fp f n k m c := by
  cases k with
  | zero => omega
  | succ k =>
    have e : jMn nf nt nx fp f n (k + 1) m c = if m < 0 then c else jMn nf nt nx fp f n k (jSo nx m) (if jIT fp f n (jSo nf m) (jSo nt m) = 0 then c else m) := rfl
    rw [e, if_neg (by omega), ← e1]
    rcases e2 with ⟨q, rfl⟩ | ⟨q, rfl⟩
    · rw [if_pos q]; rfl
    · rw [if_neg q]; rfl
theorem jMn_e {nf nt nx fp f : Nat → Int32} {n k : Nat} {m c r : Int} (hk : 0 < k) (hm : m < 0) (e : r = c) : r = jMn nf nt nx fp f n k m c := by
  cases k with
  | zero => omega
  | succ k =>
    have e1 : jMn nf nt nx fp f n (k + 1) m c = if m < 0 then c else jMn nf nt nx fp f n k (jSo nx m) (if jIT fp f n (jSo nf m) (jSo nt m) = 0 then c else m) := rfl
    rw [e1, if_pos hm, e]
/-- the member of node a that the text f of length n names; -1 when there is none -/
def jMb (so hr nf nt nx fp f : Nat → Int32) (n : Nat) (a : Int) : Int := if a < 0 ∨ jSo so a ≠ 6 then -1 else jMn nf nt nx fp f n 3102 (jSo hr a) (-1)
end
section
def EX14_isTextK : List (Nat × Nat) := []
set_option maxHeartbeats 4000000 in
set_option maxRecDepth 20000 in
theorem uX14_isTextK (l : Launch) (dC : Nat → ClassId) (dI : Nat → Nat → Nat) (ca : Nat → ClassId) (base : Nat) (B : jF) (hB : jBok B) (hAp : jAp (dC, dI)) (hB16 : ∀ n G a H, B 16 n G a H ↔ jOb (dC, dI) 16 74 (F16 n G) a H) (hB127 : ∀ n G a H, B 127 n G a H ↔ jAr (dC, dI) (ca 1) (fun j z => True) n a H) (G0 : jT) (H0 : Heap) (r0 : Nat) (a1 : Int32) (a2 : Int32) (r3 : Nat) (n3 : Nat) (f3 : Nat → Int32) (xp : Nat) (mp : Nat → Int32) : Met l yX14_isText (jw yX14_isText cX14_isText 5 (some .boolean)) ({ frames := 4, cells := 0, slots := 0, locals := 141 }) (va_Pc [.ref r0, .int a1, .int a2, .ref r3] (fun U => U.heap = H0 ∧ jX B base G0 [] H0 ∧ jG dC dI ca base U ∧ jStrF base r3 n3 f3 U H0 ∧ G0 r0 = some (16, 0) ∧ G0 xp = some (127, 3300) ∧ jP (dC, dI) G0 H0 [(r0, 16, 27, .ref xp)] ∧ jMc (dC, dI) G0 H0 [(xp, 127, 3300, ca 1, mp)] ∧ 0 ≤ a1.toInt ∧ a2.toInt ≤ 3300 ∧ a1.toInt ≤ 3300 ∧ 0 ≤ a2.toInt ∧ n3 < 2147483648)) (va_Qi (S := Unit) (fun r u => (r = 0 ∨ r = 1) ∧ (r.toInt = jIT mp f3 n3 a1.toInt a2.toInt)) (fun u t => jRt (dC, dI) B base G0 EX14_isTextK H0 [] t.heap) (jA base)) 0 0 (jA base) := by
  refine Met.ofW (cc := cX14_isText) (maxL := 5) (ret := (some .boolean)) (by decide) rfl ?_
  intro p e s m args below meth c s₁ Bd hml hv
  obtain ⟨rfl, hH0, hX, hG, hstrF_r3, hg_r0, hg_xp, hP0, hM0, hp0, hp1, hp2, hp3, hp4⟩ := hv
  have hK := hG.1
  have hx := Bd.exec
  have hb := Bd.bytes
  have hr := Bd.returns
  have hts := atoms_spec (ws := (jw yX14_isText cX14_isText 5 (some .boolean))) Bd.pre
  have htw : ∀ w ∈ jWl, w.before _ s = true := fun w h => hts w (List.mem_cons_of_mem _ h)
  have hown : s.vm.findClass RX14 = some m.cls := findClass_of_methodNamed Bd.named
  have hlocks := Bd.notSynchronized
  obtain ⟨Q, hQ⟩ : ∃ Q, Q = MQ below (va_Qi (S := Unit) (fun r u => (r = 0 ∨ r = 1) ∧ (r.toInt = jIT mp f3 n3 a1.toInt a2.toInt)) (fun u t => jRt (dC, dI) B base G0 EX14_isTextK H0 [] t.heap) (jA base)) ([.ref r0, .int a1, .int a2, .ref r3] : List Value).toArray s 0 0 (jA base) := ⟨_, rfl⟩
  rw [← hQ]
  have hl := lv_entry ([.ref r0, .int a1, .int a2, .ref r3]) (n := 5) (Nat.le_of_ble_eq_true rfl)
  rw [lg_entry_eq]
  generalize (lg_sl ([.ref r0, .int a1, .int a2, .ref r3]) ++ List.replicate (5 - (lg_sl ([.ref r0, .int a1, .int a2, .ref r3])).length) Slot.unset).toArray = ls at hl ⊢
  have hstr_r3 := hstrF_r3.str
  have hl : lv_has ls 5 [(0, .ref r0), (1, .int a1), (2, .int a2), (3, .ref r3)] := hl
  generalize hR : (headSpec (jw yX14_isText cX14_isText 5 (some .boolean)) ({ frames := 4, cells := 0, slots := 0, locals := 141 })).room = R
  subst hH0
  have hh : jSt (dC, dI) B base G0 G0 EX14_isTextK s.heap 0 0 [(r0, 16, 27, .ref xp)] [(xp, 127, 3300, ca 1, mp)] [] s.heap [] := jSt.start hX hP0 hM0 jIs.nil
  clear hX hP0
  have hk0 : (0 : Int32).toInt = 0 := by decide
  have hk1 : (1 : Int32).toInt = 1 := by decide
  have hly_16_27 := htw (u_lay RX14 TX14 27) (jWc_wsX140 _ (u_in_lay (by decide)))
  have hlk_65 := (htw (.fieldLink RX14 65 "ProofServerModel" "pool" "[I") (jWr_11 _ (List.mem_of_getElem? (i := 14) rfl)))
  have hrg_a1 := jb_rng a1
  have hrg_a2 := jb_rng a2
  refine lv_iload_n hx hb dX14_isText_0 rfl (lv_at hl 2 rfl) ?_
  refine lv_iload_n hx hb dX14_isText_1 rfl (lv_at hl 1 rfl) ?_
  refine lv_isub hx hb dX14_isText_2 ?_
  refine lv_topi (fun z_1 ez_1 => ?_)
  have hz_1 : z_1.toInt = a2.toInt - a1.toInt := by rw [ez_1]; exact jb_isub2 (rfl) (rfl) (by omega)
  refine lv_aload_n hx hb dX14_isText_3 rfl (lv_at hl 3 rfl) ?_
  refine vp_callSi (W.runV (As := []) (rest := [.int z_1]) ⟨hx, hb, hml, hown, hts⟩ (wJ0_length_8abf5 l dC dI ca base s.heap r3 n3) (cwV 0 hts (jgV (jWr_49 _ (List.mem_of_getElem? (i := 1) rfl)) (jWr_5 _ (List.mem_of_getElem? (i := 13) rfl)) (jWr_5 _ (List.mem_of_getElem? (i := 14) rfl)) (jWr_5 _ (List.mem_of_getElem? (i := 15) rfl)) (jWr_5 _ (List.mem_of_getElem? (i := 16) rfl))) rfl rfl rfl (by decide +kernel) ⟨by rw [← hR]; exact Nat.le_of_ble_eq_true rfl, by rw [← hR]; exact Nat.le_of_ble_eq_true rfl⟩) ⟨fun a U g mk q => by obtain ⟨q0, q1, q2, qK, q9⟩ := q; exact ⟨q0, q1, (q2.moved (Vm.Alike.refl U.vm)), jG.calling g mk a qK, q9⟩, jStr_recv hstr_r3 hh.1, fun U hU hW => ⟨rfl, hU, (hstr_r3.moved hW.alike).kept hh.1.2.1, hG.step hW hU hh.1, by omega⟩⟩ rfl rfl hl.1 rfl (lv_room (Nat.le_of_ble_eq_true rfl)) dX14_isText_4 ⟨Nat.zero_le _, Nat.zero_le _⟩) (fun r_2 hr_2 => ?_)
  refine lv_icmp_eq (tgt := 12) hx hb dX14_isText_7 (by decide) (fun c_3 => ?_) (fun c_3 => ?_)
  · skip
    have c_3' : z_1.toInt = r_2.toInt := jb_eq (rfl) (rfl) c_3
    refine lv_iconst (v := 0) hx hb dX14_isText_12 (by decide) ?_
    refine lv_istore (lv' := [(4, .int 0), (0, .ref r0), (1, .int a1), (2, .int a2), (3, .ref r3)]) hx hb dX14_isText_13 hl (by decide) rfl (fun ls hl => ?_)
    have L15 : ∀ (N : Nat) (v4_4 : Int32) (H_4 : Heap) (locs_4 : List Loc), jSt (dC, dI) B base G0 G0 EX14_isTextK s.heap 0 0 [(r0, 16, 27, .ref xp)] [(xp, 127, 3300, ca 1, mp)] [] H_4 locs_4 → (0 ≤ v4_4.toInt ∧ v4_4.toInt ≤ n3 ∧ jTx mp f3 a1.toInt (v4_4.toInt).toNat = 1) → (n3 - v4_4.toInt : Int) < N → ∀ ls : Array Slot, lv_has ls 5 [(0, .ref r0), (1, .int a1), (2, .int a2), (3, .ref r3), (4, .int v4_4)] → W p l e R s m ([.ref r0, .int a1, .int a2, .ref r3] : List Value).toArray below meth c H_4 locs_4 0 0 Q (F0 m 15 ls []) := by
      intro N
      induction N with
      | zero => intro v4_4 H_4 locs_4 hh_4  hi_4 hm; exact absurd hm (by omega)
      | succ N L15 =>
        intro v4_4 H_4 locs_4 hh_4  hi_4 hm_4 ls hl
        obtain ⟨hi_4_0, hi_4_1, hi_4_2⟩ := hi_4
        refine lv_iload hx hb dX14_isText_15 (lv_at hl 4 rfl) ?_
        refine lv_aload_n hx hb dX14_isText_17 rfl (lv_at hl 3 rfl) ?_
        refine vp_callSi (W.runV (As := []) (rest := [.int v4_4]) ⟨hx, hb, hml, hown, hts⟩ (wJ0_length_8abf5 l dC dI ca base H_4 r3 n3) (cwV 0 hts (jgV (jWr_49 _ (List.mem_of_getElem? (i := 1) rfl)) (jWr_5 _ (List.mem_of_getElem? (i := 13) rfl)) (jWr_5 _ (List.mem_of_getElem? (i := 14) rfl)) (jWr_5 _ (List.mem_of_getElem? (i := 15) rfl)) (jWr_5 _ (List.mem_of_getElem? (i := 16) rfl))) rfl rfl rfl (by decide +kernel) ⟨by rw [← hR]; exact Nat.le_of_ble_eq_true rfl, by rw [← hR]; exact Nat.le_of_ble_eq_true rfl⟩) ⟨fun a U g mk q => by obtain ⟨q0, q1, q2, qK, q9⟩ := q; exact ⟨q0, q1, (q2.moved (Vm.Alike.refl U.vm)), jG.calling g mk a qK, q9⟩, jStr_recv hstr_r3 hh_4.1, fun U hU hW => ⟨rfl, hU, (hstr_r3.moved hW.alike).kept hh_4.1.2.1, hG.step hW hU hh_4.1, by omega⟩⟩ rfl rfl hl.1 rfl (lv_room (Nat.le_of_ble_eq_true rfl)) dX14_isText_18 ⟨Nat.zero_le _, Nat.zero_le _⟩) (fun r_5 hr_5 => ?_)
        refine lv_icmp_ge (tgt := 50) hx hb dX14_isText_21 (by decide) (fun c_6 => ?_) (fun c_6 => ?_)
        · skip
          have c_6' : v4_4.toInt ≥ r_5.toInt := jb_ge (rfl) (rfl) c_6
          refine lv_iconst (v := 1) hx hb dX14_isText_50 (by decide) ?_
          rw [hQ]
          exact W.zret (v := 1) hx hb hr (jb_nz (Or.inr rfl)) (fun t ht hW => ⟨⟨1, (), rfl, ⟨(Or.inr rfl), by unfold jIT; rw [if_pos (by omega), show n3 = v4_4.toInt.toNat by omega, hi_4_2]; exact hk1⟩, hh_4.rt (M1 := []) [] rfl ht⟩, by rw [ht]; try exact hh_4.1.1, fun q h9 hq => by rw [ht]; try exact hh_4.1.2.1 q h9 hq⟩) hh_4.1.2.2 dX14_isText_51
        · skip
          have c_6' : v4_4.toInt < r_5.toInt := jb_ge_n (rfl) (rfl) c_6
          refine lv_aload_n hx hb dX14_isText_24 rfl (lv_at hl 0 rfl) ?_
          refine j7_read hx hb hown hK (C := RX14) (T := TX14) (N := 74) rfl hly_16_27 hlk_65 (hh_4.at 0 rfl) dX14_isText_25 ?_
          refine lv_iload_n hx hb dX14_isText_28 rfl (lv_at hl 1 rfl) ?_
          refine lv_iload hx hb dX14_isText_29 (lv_at hl 4 rfl) ?_
          refine lv_iadd hx hb dX14_isText_31 ?_
          refine lv_topi (fun z_7 ez_7 => ?_)
          have hz_7 : z_7.toInt = a1.toInt + v4_4.toInt := by rw [ez_7]; exact jb_iadd2 (rfl) (rfl) (by omega)
          refine j7_ialdM hx hb hK hh_4 hB127 1 rfl (by decide) hg_xp (x := z_7.toInt) (rfl) (by omega) (j := 0) rfl dX14_isText_32 (fun z_8 ez_8 (hz_8 : True) => ?_)
          have hqz_8 : z_8.toInt = jSo mp ((a1.toInt + v4_4.toInt)) := by unfold jSo; rw [ez_8, show z_7.toInt = (a1.toInt + v4_4.toInt) by omega]
          refine lv_aload_n hx hb dX14_isText_33 rfl (lv_at hl 3 rfl) ?_
          refine lv_iload hx hb dX14_isText_34 (lv_at hl 4 rfl) ?_
          refine vp_callSi (W.runV (As := [.int v4_4]) (rest := [.int z_8]) ⟨hx, hb, hml, hown, hts⟩ (eJ0_charAt_5068e l dC dI ca base H_4 r3 n3 f3 v4_4) (cwV 1 hts (jgV (jWr_49 _ (List.mem_of_getElem? (i := 13) rfl)) (jWr_6 _ (List.mem_of_getElem? (i := 1) rfl)) (jWr_6 _ (List.mem_of_getElem? (i := 2) rfl)) (jWr_5 _ (List.mem_of_getElem? (i := 15) rfl)) (jWr_6 _ (List.mem_of_getElem? (i := 3) rfl))) rfl rfl rfl (by decide +kernel) ⟨by rw [← hR]; exact Nat.le_of_ble_eq_true rfl, by rw [← hR]; exact Nat.le_of_ble_eq_true rfl⟩) ⟨fun a U g mk q => by obtain ⟨q0, q1, q2, qK, q9⟩ := q; exact ⟨q0, q1, (q2.moved (Vm.Alike.refl U.vm)), jG.calling g mk a qK, q9⟩, jStr_recv hstr_r3 hh_4.1, fun U hU hW => ⟨rfl, hU, (hstrF_r3.moved hW.alike).kept hh_4.1.2.1, hG.step hW hU hh_4.1, ⟨by omega, by omega, by omega⟩⟩⟩ rfl rfl hl.1 rfl (lv_room (Nat.le_of_ble_eq_true rfl)) dX14_isText_36 ⟨Nat.zero_le _, Nat.zero_le _⟩) (fun r_9 hr_9 => ?_)
          refine lv_icmp_eq (tgt := 44) hx hb dX14_isText_39 (by decide) (fun c_10 => ?_) (fun c_10 => ?_)
          · skip
            have c_10' : z_8.toInt = r_9.toInt := jb_eq (rfl) (rfl) c_10
            obtain ⟨z_11, ez_11⟩ : ∃ y : Int32, y = v4_4 + 1 := ⟨_, rfl⟩
            refine lv_iinc (v := z_11) (lv' := [(4, .int z_11), (0, .ref r0), (1, .int a1), (2, .int a2), (3, .ref r3)]) hx hb dX14_isText_44 hl (k := 4) rfl (by rw [ez_11]; rfl) (by decide) rfl (fun ls hl => ?_)
            have hz_11 : z_11.toInt = v4_4.toInt + 1 := by rw [ez_11]; exact jb_iadd2 (rfl) (by decide) (by omega)
            refine lv_goto (tgt := 15) hx hb dX14_isText_47 (by decide) ?_
            exact L15 z_11 _ _ hh_4 (by refine ⟨by omega, by omega, ?_⟩; rw [show (z_11).toInt.toNat = v4_4.toInt.toNat + 1 by omega]; exact jTx_1 hi_4_2 (by rw [show a1.toInt + ((v4_4.toInt.toNat : Nat) : Int) = a1.toInt + v4_4.toInt by omega, ← hqz_8, ← hr_9]; omega)) (by omega) _ (lv_sub hl [1, 2, 3, 4, 0] rfl)
          · skip
            have c_10' : z_8.toInt ≠ r_9.toInt := jb_eq_n (rfl) (rfl) c_10
            refine lv_iconst (v := 0) hx hb dX14_isText_42 (by decide) ?_
            rw [hQ]
            exact W.zret (v := 0) hx hb hr (jb_nz (Or.inl rfl)) (fun t ht hW => ⟨⟨0, (), rfl, ⟨(Or.inl rfl), by unfold jIT; rw [if_pos (by omega), jTx_0 (m := v4_4.toInt.toNat) (by omega) (by rw [show a1.toInt + ((v4_4.toInt.toNat : Nat) : Int) = a1.toInt + v4_4.toInt by omega, ← hqz_8, ← hr_9]; omega)]; exact hk0⟩, hh_4.rt (M1 := []) [] rfl ht⟩, by rw [ht]; try exact hh_4.1.1, fun q h9 hq => by rw [ht]; try exact hh_4.1.2.1 q h9 hq⟩) hh_4.1.2.2 dX14_isText_43
    exact L15 (n3 - (0 : Int32).toInt : Int).toNat.succ 0 _ _ hh (by refine ⟨by omega, by omega, ?_⟩; rw [hk0]; rfl) (by omega) _ (lv_sub hl [1, 2, 3, 4, 0] rfl)
  · skip
    have c_3' : z_1.toInt ≠ r_2.toInt := jb_eq_n (rfl) (rfl) c_3
    refine lv_iconst (v := 0) hx hb dX14_isText_10 (by decide) ?_
    rw [hQ]
    exact W.zret (v := 0) hx hb hr (jb_nz (Or.inl rfl)) (fun t ht hW => ⟨⟨0, (), rfl, ⟨(Or.inl rfl), by unfold jIT; rw [if_neg (by omega)]; exact hk0⟩, hh.rt (M1 := []) [] rfl ht⟩, by rw [ht]; try exact hh.1.1, fun q h9 hq => by rw [ht]; try exact hh.1.2.1 q h9 hq⟩) hh.1.2.2 dX14_isText_11
end
section
theorem dX14_isPosition_0 : decode cX14_isPosition 0 = .ok (.aload_n 0, 1) := by decide +kernel
theorem dX14_isPosition_1 : decode cX14_isPosition 1 = .ok (.iload_n 1, 1) := by decide +kernel
theorem dX14_isPosition_2 : decode cX14_isPosition 2 = .ok (.ldc_w 544, 3) := by decide +kernel
theorem dX14_isPosition_5 : decode cX14_isPosition 5 = .ok (.invokevirtual 430, 3) := by decide +kernel
theorem dX14_isPosition_8 : decode cX14_isPosition 8 = .ok (.istore_n 2, 1) := by decide +kernel
theorem dX14_isPosition_9 : decode cX14_isPosition 9 = .ok (.aload_n 0, 1) := by decide +kernel
theorem dX14_isPosition_10 : decode cX14_isPosition 10 = .ok (.iload_n 1, 1) := by decide +kernel
theorem dX14_isPosition_11 : decode cX14_isPosition 11 = .ok (.ldc_w 546, 3) := by decide +kernel
theorem dX14_isPosition_14 : decode cX14_isPosition 14 = .ok (.invokevirtual 430, 3) := by decide +kernel
theorem dX14_isPosition_17 : decode cX14_isPosition 17 = .ok (.istore_n 3, 1) := by decide +kernel
theorem dX14_isPosition_18 : decode cX14_isPosition 18 = .ok (.aload_n 0, 1) := by decide +kernel
theorem dX14_isPosition_19 : decode cX14_isPosition 19 = .ok (.iload_n 2, 1) := by decide +kernel
theorem dX14_isPosition_20 : decode cX14_isPosition 20 = .ok (.invokevirtual 371, 3) := by decide +kernel
theorem dX14_isPosition_23 : decode cX14_isPosition 23 = .ok (.ifCond .eq 33, 3) := by decide +kernel
theorem dX14_isPosition_26 : decode cX14_isPosition 26 = .ok (.aload_n 0, 1) := by decide +kernel
theorem dX14_isPosition_27 : decode cX14_isPosition 27 = .ok (.iload_n 3, 1) := by decide +kernel
theorem dX14_isPosition_28 : decode cX14_isPosition 28 = .ok (.invokevirtual 371, 3) := by decide +kernel
theorem dX14_isPosition_31 : decode cX14_isPosition 31 = .ok (.ifCond .eq 25, 3) := by decide +kernel
theorem dX14_isPosition_34 : decode cX14_isPosition 34 = .ok (.aload_n 0, 1) := by decide +kernel
theorem dX14_isPosition_35 : decode cX14_isPosition 35 = .ok (.getfield 62, 3) := by decide +kernel
theorem dX14_isPosition_38 : decode cX14_isPosition 38 = .ok (.iload_n 2, 1) := by decide +kernel
theorem dX14_isPosition_39 : decode cX14_isPosition 39 = .ok (.iaload, 1) := by decide +kernel
theorem dX14_isPosition_40 : decode cX14_isPosition 40 = .ok (.ifCond .lt 16, 3) := by decide +kernel
theorem dX14_isPosition_43 : decode cX14_isPosition 43 = .ok (.aload_n 0, 1) := by decide +kernel
theorem dX14_isPosition_44 : decode cX14_isPosition 44 = .ok (.getfield 62, 3) := by decide +kernel
theorem dX14_isPosition_47 : decode cX14_isPosition 47 = .ok (.iload_n 3, 1) := by decide +kernel
theorem dX14_isPosition_48 : decode cX14_isPosition 48 = .ok (.iaload, 1) := by decide +kernel
theorem dX14_isPosition_49 : decode cX14_isPosition 49 = .ok (.ifCond .lt 7, 3) := by decide +kernel
theorem dX14_isPosition_52 : decode cX14_isPosition 52 = .ok (.iconst 1, 1) := by decide +kernel
theorem dX14_isPosition_53 : decode cX14_isPosition 53 = .ok (.goto 4, 3) := by decide +kernel
theorem dX14_isPosition_56 : decode cX14_isPosition 56 = .ok (.iconst 0, 1) := by decide +kernel
theorem dX14_isPosition_57 : decode cX14_isPosition 57 = .ok (.ireturn, 1) := by decide +kernel
theorem dX14_lineOf_0 : decode cX14_lineOf 0 = .ok (.aload_n 0, 1) := by decide +kernel
theorem dX14_lineOf_1 : decode cX14_lineOf 1 = .ok (.getfield 62, 3) := by decide +kernel
theorem dX14_lineOf_4 : decode cX14_lineOf 4 = .ok (.aload_n 0, 1) := by decide +kernel
theorem dX14_lineOf_5 : decode cX14_lineOf 5 = .ok (.iload_n 1, 1) := by decide +kernel
theorem dX14_lineOf_6 : decode cX14_lineOf 6 = .ok (.ldc_w 544, 3) := by decide +kernel
theorem dX14_lineOf_9 : decode cX14_lineOf 9 = .ok (.invokevirtual 430, 3) := by decide +kernel
theorem dX14_lineOf_12 : decode cX14_lineOf 12 = .ok (.iaload, 1) := by decide +kernel
theorem dX14_lineOf_13 : decode cX14_lineOf 13 = .ok (.ireturn, 1) := by decide +kernel
theorem dX14_characterOf_0 : decode cX14_characterOf 0 = .ok (.aload_n 0, 1) := by decide +kernel
theorem dX14_characterOf_1 : decode cX14_characterOf 1 = .ok (.getfield 62, 3) := by decide +kernel
theorem dX14_characterOf_4 : decode cX14_characterOf 4 = .ok (.aload_n 0, 1) := by decide +kernel
theorem dX14_characterOf_5 : decode cX14_characterOf 5 = .ok (.iload_n 1, 1) := by decide +kernel
theorem dX14_characterOf_6 : decode cX14_characterOf 6 = .ok (.ldc_w 546, 3) := by decide +kernel
theorem dX14_characterOf_9 : decode cX14_characterOf 9 = .ok (.invokevirtual 430, 3) := by decide +kernel
theorem dX14_characterOf_12 : decode cX14_characterOf 12 = .ok (.iaload, 1) := by decide +kernel
theorem dX14_characterOf_13 : decode cX14_characterOf 13 = .ok (.ireturn, 1) := by decide +kernel
theorem dX14_isChange_0 : decode cX14_isChange 0 = .ok (.aload_n 0, 1) := by decide +kernel
theorem dX14_isChange_1 : decode cX14_isChange 1 = .ok (.getfield 37, 3) := by decide +kernel
theorem dX14_isChange_4 : decode cX14_isChange 4 = .ok (.iload_n 1, 1) := by decide +kernel
theorem dX14_isChange_5 : decode cX14_isChange 5 = .ok (.iaload, 1) := by decide +kernel
theorem dX14_isChange_6 : decode cX14_isChange 6 = .ok (.bipush 6, 2) := by decide +kernel
theorem dX14_isChange_8 : decode cX14_isChange 8 = .ok (.if_icmp .ne 18, 3) := by decide +kernel
theorem dX14_isChange_11 : decode cX14_isChange 11 = .ok (.aload_n 0, 1) := by decide +kernel
theorem dX14_isChange_12 : decode cX14_isChange 12 = .ok (.aload_n 0, 1) := by decide +kernel
theorem dX14_isChange_13 : decode cX14_isChange 13 = .ok (.iload_n 1, 1) := by decide +kernel
theorem dX14_isChange_14 : decode cX14_isChange 14 = .ok (.ldc_w 519, 3) := by decide +kernel
theorem dX14_isChange_17 : decode cX14_isChange 17 = .ok (.invokevirtual 430, 3) := by decide +kernel
theorem dX14_isChange_20 : decode cX14_isChange 20 = .ok (.invokevirtual 368, 3) := by decide +kernel
theorem dX14_isChange_23 : decode cX14_isChange 23 = .ok (.ifCond .ne 5, 3) := by decide +kernel
theorem dX14_isChange_26 : decode cX14_isChange 26 = .ok (.iconst 0, 1) := by decide +kernel
theorem dX14_isChange_27 : decode cX14_isChange 27 = .ok (.ireturn, 1) := by decide +kernel
theorem dX14_isChange_28 : decode cX14_isChange 28 = .ok (.aload_n 0, 1) := by decide +kernel
theorem dX14_isChange_29 : decode cX14_isChange 29 = .ok (.iload_n 1, 1) := by decide +kernel
theorem dX14_isChange_30 : decode cX14_isChange 30 = .ok (.ldc_w 548, 3) := by decide +kernel
theorem dX14_isChange_33 : decode cX14_isChange 33 = .ok (.invokevirtual 430, 3) := by decide +kernel
theorem dX14_isChange_36 : decode cX14_isChange 36 = .ok (.istore_n 2, 1) := by decide +kernel
theorem dX14_isChange_37 : decode cX14_isChange 37 = .ok (.iload_n 2, 1) := by decide +kernel
theorem dX14_isChange_38 : decode cX14_isChange 38 = .ok (.ifCond .lt 33, 3) := by decide +kernel
theorem dX14_isChange_41 : decode cX14_isChange 41 = .ok (.aload_n 0, 1) := by decide +kernel
theorem dX14_isChange_42 : decode cX14_isChange 42 = .ok (.aload_n 0, 1) := by decide +kernel
theorem dX14_isChange_43 : decode cX14_isChange 43 = .ok (.iload_n 2, 1) := by decide +kernel
theorem dX14_isChange_44 : decode cX14_isChange 44 = .ok (.ldc_w 553, 3) := by decide +kernel
theorem dX14_isChange_47 : decode cX14_isChange 47 = .ok (.invokevirtual 430, 3) := by decide +kernel
theorem dX14_isChange_50 : decode cX14_isChange 50 = .ok (.invokevirtual 566, 3) := by decide +kernel
theorem dX14_isChange_53 : decode cX14_isChange 53 = .ok (.ifCond .eq 22, 3) := by decide +kernel
theorem dX14_isChange_56 : decode cX14_isChange 56 = .ok (.aload_n 0, 1) := by decide +kernel
theorem dX14_isChange_57 : decode cX14_isChange 57 = .ok (.aload_n 0, 1) := by decide +kernel
theorem dX14_isChange_58 : decode cX14_isChange 58 = .ok (.iload_n 2, 1) := by decide +kernel
theorem dX14_isChange_59 : decode cX14_isChange 59 = .ok (.ldc_w 555, 3) := by decide +kernel
theorem dX14_isChange_62 : decode cX14_isChange 62 = .ok (.invokevirtual 430, 3) := by decide +kernel
theorem dX14_isChange_65 : decode cX14_isChange 65 = .ok (.invokevirtual 566, 3) := by decide +kernel
theorem dX14_isChange_68 : decode cX14_isChange 68 = .ok (.ifCond .eq 7, 3) := by decide +kernel
theorem dX14_isChange_71 : decode cX14_isChange 71 = .ok (.iconst 1, 1) := by decide +kernel
theorem dX14_isChange_72 : decode cX14_isChange 72 = .ok (.goto 4, 3) := by decide +kernel
theorem dX14_isChange_75 : decode cX14_isChange 75 = .ok (.iconst 0, 1) := by decide +kernel
theorem dX14_isChange_76 : decode cX14_isChange 76 = .ok (.ireturn, 1) := by decide +kernel
end
section
theorem dX14_make_0 : decode cX14_make 0 = .ok (.aload_n 0, 1) := by decide +kernel
theorem dX14_make_1 : decode cX14_make 1 = .ok (.iload_n 1, 1) := by decide +kernel
theorem dX14_make_2 : decode cX14_make 2 = .ok (.ldc_w 519, 3) := by decide +kernel
theorem dX14_make_5 : decode cX14_make 5 = .ok (.invokevirtual 430, 3) := by decide +kernel
theorem dX14_make_8 : decode cX14_make 8 = .ok (.istore_n 2, 1) := by decide +kernel
theorem dX14_make_9 : decode cX14_make 9 = .ok (.aload_n 0, 1) := by decide +kernel
theorem dX14_make_10 : decode cX14_make 10 = .ok (.iload_n 1, 1) := by decide +kernel
theorem dX14_make_11 : decode cX14_make 11 = .ok (.ldc_w 548, 3) := by decide +kernel
theorem dX14_make_14 : decode cX14_make 14 = .ok (.invokevirtual 430, 3) := by decide +kernel
theorem dX14_make_17 : decode cX14_make 17 = .ok (.istore_n 3, 1) := by decide +kernel
theorem dX14_make_18 : decode cX14_make 18 = .ok (.aload_n 0, 1) := by decide +kernel
theorem dX14_make_19 : decode cX14_make 19 = .ok (.getfield 55, 3) := by decide +kernel
theorem dX14_make_22 : decode cX14_make 22 = .ok (.iload_n 2, 1) := by decide +kernel
theorem dX14_make_23 : decode cX14_make 23 = .ok (.iaload, 1) := by decide +kernel
theorem dX14_make_24 : decode cX14_make 24 = .ok (.aload_n 0, 1) := by decide +kernel
theorem dX14_make_25 : decode cX14_make 25 = .ok (.getfield 52, 3) := by decide +kernel
theorem dX14_make_28 : decode cX14_make 28 = .ok (.iload_n 2, 1) := by decide +kernel
theorem dX14_make_29 : decode cX14_make 29 = .ok (.iaload, 1) := by decide +kernel
theorem dX14_make_30 : decode cX14_make 30 = .ok (.isub, 1) := by decide +kernel
theorem dX14_make_31 : decode cX14_make 31 = .ok (.istore 4, 2) := by decide +kernel
theorem dX14_make_33 : decode cX14_make 33 = .ok (.iconst 0, 1) := by decide +kernel
theorem dX14_make_34 : decode cX14_make 34 = .ok (.istore 5, 2) := by decide +kernel
theorem dX14_make_36 : decode cX14_make 36 = .ok (.aload_n 0, 1) := by decide +kernel
theorem dX14_make_37 : decode cX14_make 37 = .ok (.getfield 550, 3) := by decide +kernel
theorem dX14_make_40 : decode cX14_make 40 = .ok (.istore 6, 2) := by decide +kernel
theorem dX14_make_42 : decode cX14_make 42 = .ok (.iload_n 3, 1) := by decide +kernel
theorem dX14_make_43 : decode cX14_make 43 = .ok (.ifCond .lt 87, 3) := by decide +kernel
theorem dX14_make_46 : decode cX14_make 46 = .ok (.aload_n 0, 1) := by decide +kernel
theorem dX14_make_47 : decode cX14_make 47 = .ok (.iload_n 3, 1) := by decide +kernel
theorem dX14_make_48 : decode cX14_make 48 = .ok (.ldc_w 553, 3) := by decide +kernel
theorem dX14_make_51 : decode cX14_make 51 = .ok (.invokevirtual 430, 3) := by decide +kernel
theorem dX14_make_54 : decode cX14_make 54 = .ok (.istore 7, 2) := by decide +kernel
theorem dX14_make_56 : decode cX14_make 56 = .ok (.aload_n 0, 1) := by decide +kernel
theorem dX14_make_57 : decode cX14_make 57 = .ok (.iload_n 3, 1) := by decide +kernel
theorem dX14_make_58 : decode cX14_make 58 = .ok (.ldc_w 555, 3) := by decide +kernel
theorem dX14_make_61 : decode cX14_make 61 = .ok (.invokevirtual 430, 3) := by decide +kernel
theorem dX14_make_64 : decode cX14_make 64 = .ok (.istore 8, 2) := by decide +kernel
theorem dX14_make_66 : decode cX14_make 66 = .ok (.aload_n 0, 1) := by decide +kernel
theorem dX14_make_67 : decode cX14_make 67 = .ok (.getfield 78, 3) := by decide +kernel
theorem dX14_make_70 : decode cX14_make 70 = .ok (.aload_n 0, 1) := by decide +kernel
theorem dX14_make_71 : decode cX14_make 71 = .ok (.getfield 550, 3) := by decide +kernel
theorem dX14_make_74 : decode cX14_make 74 = .ok (.aload_n 0, 1) := by decide +kernel
theorem dX14_make_75 : decode cX14_make 75 = .ok (.iload 7, 2) := by decide +kernel
theorem dX14_make_77 : decode cX14_make 77 = .ok (.invokevirtual 556, 3) := by decide +kernel
theorem dX14_make_80 : decode cX14_make 80 = .ok (.aload_n 0, 1) := by decide +kernel
theorem dX14_make_81 : decode cX14_make 81 = .ok (.iload 7, 2) := by decide +kernel
theorem dX14_make_83 : decode cX14_make 83 = .ok (.invokevirtual 559, 3) := by decide +kernel
theorem dX14_make_86 : decode cX14_make 86 = .ok (.invokestatic 562, 3) := by decide +kernel
theorem dX14_make_89 : decode cX14_make 89 = .ok (.istore 5, 2) := by decide +kernel
theorem dX14_make_91 : decode cX14_make 91 = .ok (.aload_n 0, 1) := by decide +kernel
theorem dX14_make_92 : decode cX14_make 92 = .ok (.getfield 78, 3) := by decide +kernel
theorem dX14_make_95 : decode cX14_make 95 = .ok (.aload_n 0, 1) := by decide +kernel
theorem dX14_make_96 : decode cX14_make 96 = .ok (.getfield 550, 3) := by decide +kernel
theorem dX14_make_99 : decode cX14_make 99 = .ok (.aload_n 0, 1) := by decide +kernel
theorem dX14_make_100 : decode cX14_make 100 = .ok (.iload 8, 2) := by decide +kernel
theorem dX14_make_102 : decode cX14_make 102 = .ok (.invokevirtual 556, 3) := by decide +kernel
theorem dX14_make_105 : decode cX14_make 105 = .ok (.aload_n 0, 1) := by decide +kernel
theorem dX14_make_106 : decode cX14_make 106 = .ok (.iload 8, 2) := by decide +kernel
theorem dX14_make_108 : decode cX14_make 108 = .ok (.invokevirtual 559, 3) := by decide +kernel
theorem dX14_make_111 : decode cX14_make 111 = .ok (.invokestatic 562, 3) := by decide +kernel
theorem dX14_make_114 : decode cX14_make 114 = .ok (.istore 6, 2) := by decide +kernel
theorem dX14_make_116 : decode cX14_make 116 = .ok (.iload 5, 2) := by decide +kernel
theorem dX14_make_118 : decode cX14_make 118 = .ok (.ifCond .lt 10, 3) := by decide +kernel
theorem dX14_make_121 : decode cX14_make 121 = .ok (.iload 6, 2) := by decide +kernel
theorem dX14_make_123 : decode cX14_make 123 = .ok (.iload 5, 2) := by decide +kernel
theorem dX14_make_125 : decode cX14_make 125 = .ok (.if_icmp .ge 5, 3) := by decide +kernel
theorem dX14_make_128 : decode cX14_make 128 = .ok (.iconst 0, 1) := by decide +kernel
theorem dX14_make_129 : decode cX14_make 129 = .ok (.ireturn, 1) := by decide +kernel
theorem dX14_make_130 : decode cX14_make 130 = .ok (.aload_n 0, 1) := by decide +kernel
theorem dX14_make_131 : decode cX14_make 131 = .ok (.getfield 550, 3) := by decide +kernel
theorem dX14_make_134 : decode cX14_make 134 = .ok (.iload 6, 2) := by decide +kernel
theorem dX14_make_136 : decode cX14_make 136 = .ok (.iload 5, 2) := by decide +kernel
theorem dX14_make_138 : decode cX14_make 138 = .ok (.isub, 1) := by decide +kernel
theorem dX14_make_139 : decode cX14_make 139 = .ok (.isub, 1) := by decide +kernel
theorem dX14_make_140 : decode cX14_make 140 = .ok (.iload 4, 2) := by decide +kernel
theorem dX14_make_142 : decode cX14_make 142 = .ok (.iadd, 1) := by decide +kernel
theorem dX14_make_143 : decode cX14_make 143 = .ok (.istore 7, 2) := by decide +kernel
theorem dX14_make_145 : decode cX14_make 145 = .ok (.iload 7, 2) := by decide +kernel
theorem dX14_make_147 : decode cX14_make 147 = .ok (.sipush 1500, 3) := by decide +kernel
theorem dX14_make_150 : decode cX14_make 150 = .ok (.if_icmp .le 5, 3) := by decide +kernel
theorem dX14_make_153 : decode cX14_make 153 = .ok (.iconst 0, 1) := by decide +kernel
theorem dX14_make_154 : decode cX14_make 154 = .ok (.ireturn, 1) := by decide +kernel
theorem dX14_make_155 : decode cX14_make 155 = .ok (.aload_n 0, 1) := by decide +kernel
theorem dX14_make_156 : decode cX14_make 156 = .ok (.getfield 550, 3) := by decide +kernel
theorem dX14_make_159 : decode cX14_make 159 = .ok (.iload 6, 2) := by decide +kernel
theorem dX14_make_161 : decode cX14_make 161 = .ok (.isub, 1) := by decide +kernel
theorem dX14_make_162 : decode cX14_make 162 = .ok (.istore 8, 2) := by decide +kernel
theorem dX14_make_164 : decode cX14_make 164 = .ok (.iconst 0, 1) := by decide +kernel
theorem dX14_make_165 : decode cX14_make 165 = .ok (.istore 9, 2) := by decide +kernel
theorem dX14_make_167 : decode cX14_make 167 = .ok (.iload 9, 2) := by decide +kernel
theorem dX14_make_169 : decode cX14_make 169 = .ok (.iload 8, 2) := by decide +kernel
theorem dX14_make_171 : decode cX14_make 171 = .ok (.if_icmp .ge 26, 3) := by decide +kernel
theorem dX14_make_174 : decode cX14_make 174 = .ok (.aload_n 0, 1) := by decide +kernel
theorem dX14_make_175 : decode cX14_make 175 = .ok (.getfield 81, 3) := by decide +kernel
theorem dX14_make_178 : decode cX14_make 178 = .ok (.iload 9, 2) := by decide +kernel
theorem dX14_make_180 : decode cX14_make 180 = .ok (.aload_n 0, 1) := by decide +kernel
theorem dX14_make_181 : decode cX14_make 181 = .ok (.getfield 78, 3) := by decide +kernel
theorem dX14_make_184 : decode cX14_make 184 = .ok (.iload 6, 2) := by decide +kernel
theorem dX14_make_186 : decode cX14_make 186 = .ok (.iload 9, 2) := by decide +kernel
theorem dX14_make_188 : decode cX14_make 188 = .ok (.iadd, 1) := by decide +kernel
theorem dX14_make_189 : decode cX14_make 189 = .ok (.iaload, 1) := by decide +kernel
theorem dX14_make_190 : decode cX14_make 190 = .ok (.iastore, 1) := by decide +kernel
theorem dX14_make_191 : decode cX14_make 191 = .ok (.iinc 9 1, 3) := by decide +kernel
theorem dX14_make_194 : decode cX14_make 194 = .ok (.goto (-27), 3) := by decide +kernel
theorem dX14_make_197 : decode cX14_make 197 = .ok (.iconst 0, 1) := by decide +kernel
theorem dX14_make_198 : decode cX14_make 198 = .ok (.istore 9, 2) := by decide +kernel
theorem dX14_make_200 : decode cX14_make 200 = .ok (.iload 9, 2) := by decide +kernel
theorem dX14_make_202 : decode cX14_make 202 = .ok (.iload 4, 2) := by decide +kernel
theorem dX14_make_204 : decode cX14_make 204 = .ok (.if_icmp .ge 33, 3) := by decide +kernel
theorem dX14_make_207 : decode cX14_make 207 = .ok (.aload_n 0, 1) := by decide +kernel
theorem dX14_make_208 : decode cX14_make 208 = .ok (.getfield 78, 3) := by decide +kernel
theorem dX14_make_211 : decode cX14_make 211 = .ok (.iload 5, 2) := by decide +kernel
theorem dX14_make_213 : decode cX14_make 213 = .ok (.iload 9, 2) := by decide +kernel
theorem dX14_make_215 : decode cX14_make 215 = .ok (.iadd, 1) := by decide +kernel
theorem dX14_make_216 : decode cX14_make 216 = .ok (.aload_n 0, 1) := by decide +kernel
theorem dX14_make_217 : decode cX14_make 217 = .ok (.getfield 65, 3) := by decide +kernel
theorem dX14_make_220 : decode cX14_make 220 = .ok (.aload_n 0, 1) := by decide +kernel
theorem dX14_make_221 : decode cX14_make 221 = .ok (.getfield 52, 3) := by decide +kernel
theorem dX14_make_224 : decode cX14_make 224 = .ok (.iload_n 2, 1) := by decide +kernel
theorem dX14_make_225 : decode cX14_make 225 = .ok (.iaload, 1) := by decide +kernel
theorem dX14_make_226 : decode cX14_make 226 = .ok (.iload 9, 2) := by decide +kernel
theorem dX14_make_228 : decode cX14_make 228 = .ok (.iadd, 1) := by decide +kernel
theorem dX14_make_229 : decode cX14_make 229 = .ok (.iaload, 1) := by decide +kernel
theorem dX14_make_230 : decode cX14_make 230 = .ok (.iastore, 1) := by decide +kernel
theorem dX14_make_231 : decode cX14_make 231 = .ok (.iinc 9 1, 3) := by decide +kernel
theorem dX14_make_234 : decode cX14_make 234 = .ok (.goto (-34), 3) := by decide +kernel
theorem dX14_make_237 : decode cX14_make 237 = .ok (.iconst 0, 1) := by decide +kernel
theorem dX14_make_238 : decode cX14_make 238 = .ok (.istore 9, 2) := by decide +kernel
theorem dX14_make_240 : decode cX14_make 240 = .ok (.iload 9, 2) := by decide +kernel
theorem dX14_make_242 : decode cX14_make 242 = .ok (.iload 8, 2) := by decide +kernel
theorem dX14_make_244 : decode cX14_make 244 = .ok (.if_icmp .ge 29, 3) := by decide +kernel
theorem dX14_make_247 : decode cX14_make 247 = .ok (.aload_n 0, 1) := by decide +kernel
theorem dX14_make_248 : decode cX14_make 248 = .ok (.getfield 78, 3) := by decide +kernel
theorem dX14_make_251 : decode cX14_make 251 = .ok (.iload 5, 2) := by decide +kernel
theorem dX14_make_253 : decode cX14_make 253 = .ok (.iload 4, 2) := by decide +kernel
theorem dX14_make_255 : decode cX14_make 255 = .ok (.iadd, 1) := by decide +kernel
theorem dX14_make_256 : decode cX14_make 256 = .ok (.iload 9, 2) := by decide +kernel
theorem dX14_make_258 : decode cX14_make 258 = .ok (.iadd, 1) := by decide +kernel
theorem dX14_make_259 : decode cX14_make 259 = .ok (.aload_n 0, 1) := by decide +kernel
theorem dX14_make_260 : decode cX14_make 260 = .ok (.getfield 81, 3) := by decide +kernel
theorem dX14_make_263 : decode cX14_make 263 = .ok (.iload 9, 2) := by decide +kernel
theorem dX14_make_265 : decode cX14_make 265 = .ok (.iaload, 1) := by decide +kernel
theorem dX14_make_266 : decode cX14_make 266 = .ok (.iastore, 1) := by decide +kernel
theorem dX14_make_267 : decode cX14_make 267 = .ok (.iinc 9 1, 3) := by decide +kernel
theorem dX14_make_270 : decode cX14_make 270 = .ok (.goto (-30), 3) := by decide +kernel
theorem dX14_make_273 : decode cX14_make 273 = .ok (.aload_n 0, 1) := by decide +kernel
theorem dX14_make_274 : decode cX14_make 274 = .ok (.iload 7, 2) := by decide +kernel
theorem dX14_make_276 : decode cX14_make 276 = .ok (.putfield 550, 3) := by decide +kernel
theorem dX14_make_279 : decode cX14_make 279 = .ok (.iconst 1, 1) := by decide +kernel
theorem dX14_make_280 : decode cX14_make 280 = .ok (.ireturn, 1) := by decide +kernel
end
section
-- the workers of a document that has changed; a document that is opened; closed
theorem jPu.set {sn ck ck' fs : Nat → Int32} {fd fo : Nat → Option Nat} {dc st : Int} {ol nw td x : Nat} {v : Int32} (h : jPu sn ck fd fo fs dc ol nw td) (hst : st ≤ v.toInt) (hck : (ck' x).toInt ≤ st) (ho : ∀ a, a ≠ x → ck' a = ck a) : jPv (jUn sn x v) ck' fd fo fs dc ol nw td x st 0 := by
  obtain ⟨g0, g1, g2, g3⟩ := h
  refine ⟨g0, g1, fun i a hi ha => ?_, ⟨by rw [jUn_e]; exact hst, hck⟩, fun w hw => ?_⟩
  · by_cases e : a = x
    · subst e; rw [jUn_e]; omega
    · rw [jUn_n _ _ e, ho a e]; exact g2 i a hi ha
  · rcases g3 w hw with k | ⟨d, a, k1, k2, k3, k4, k5⟩
    · exact Or.inl k
    · refine Or.inr ⟨d, a, k1, k2, k3, k4, ?_⟩
      by_cases e : a = x
      · exact Or.inr ⟨e, by omega⟩
      · rw [jUn_n _ _ e]; exact Or.inl k5
theorem jPv.keep {sn ck fs : Nat → Int32} {fd fo : Nat → Option Nat} {dc st k k1 : Int} {ol nw td x w : Nat} (h : jPv sn ck fd fo fs dc ol nw td x st k) (hc : fo w ≠ some x ∨ (fs w).toInt < st) (hw : (w : Int) = k) (hk : k1 = k + 1) : jPv sn ck fd fo fs dc ol nw td x st k1 := by
  obtain ⟨g0, g1, g2, g4, g3⟩ := h
  refine ⟨g0, g1, g2, g4, fun j hj => ?_⟩
  rcases g3 j hj with q | ⟨d, a, k1, k2, k3, k4, k5⟩
  · exact Or.inl q
  · refine Or.inr ⟨d, a, k1, k2, k3, k4, ?_⟩
    rcases k5 with k5 | ⟨k5, k6⟩
    · exact Or.inl k5
    · by_cases e : j = w
      · subst e
        rcases hc with hc | hc
        · exact absurd (by rw [k4, k5]) hc
        · subst k5; exact Or.inl (by have := g4.1; omega)
      · exact Or.inr ⟨k5, by omega⟩
theorem jPv.done {sn ck fs : Nat → Int32} {fd fo : Nat → Option Nat} {dc st k : Int} {ol nw td x : Nat} (h : jPv sn ck fd fo fs dc ol nw td x st k) (hk : 2 ≤ k) : jPu sn ck fd fo fs dc ol nw td := by
  obtain ⟨g0, g1, g2, g4, g3⟩ := h
  refine ⟨g0, g1, g2, fun j hj => ?_⟩
  rcases g3 j hj with q | ⟨d, a, k1, k2, k3, k4, k5⟩
  · exact Or.inl q
  · exact Or.inr ⟨d, a, k1, k2, k3, k4, k5.elim id (fun q => by have := q.2; omega)⟩
theorem jPu.opn {sn ck fs : Nat → Int32} {fd fo : Nat → Option Nat} {dc dc1 : Int} {ol nw td x d0 : Nat} {v w0 : Int32} (h : jPu sn ck fd fo fs dc ol nw td) (hd : fd d0 = some x) (h3 : d0 < 3) (hdc : (d0 : Int) = dc) (h1 : dc1 = dc + 1) (hw : w0.toInt ≤ v.toInt) : jPu (jUn sn x v) (jUn ck x w0) fd fo fs dc1 ol nw td := by
  obtain ⟨g0, g1, g2, g3⟩ := h
  refine ⟨g0, g1, fun i a hi ha => ?_, fun w hw => ?_⟩
  · by_cases e : a = x
    · subst e; rw [jUn_e, jUn_e]; exact hw
    · rw [jUn_n _ _ e, jUn_n _ _ e]; exact g2 i a hi ha
  · rcases g3 w hw with k | ⟨d, a, k1, k2, k3, k4, k5⟩
    · exact Or.inl k
    · refine Or.inr ⟨d, a, by omega, k2, k3, k4, ?_⟩
      have e : a ≠ x := fun q => by
        subst q
        have := g1 d d0 k2 h3 (k3.trans hd.symm)
        omega
      rw [jUn_n _ _ e]; exact k5
section J16
variable {p : Program} {l : Launch} {e : Env} {R : Room} {s : State} {m : MethodId} {args : Array Value} {below : List Frame} {meth : Method} {c : Code} {H : Heap} {locs : List Loc} {cells slots : Nat} {Q : State → Prop}
variable {cc : ByteArray} {pc : Nat} {ls : Array Slot} {rest : List Value} {dC : Nat → ClassId} {dI : Nat → Nat → Nat} {ca : Nat → ClassId} {B : jF} {base : Nat} {G0 G : jT} {E : List (Nat × Nat)} {H0 : Heap} {zc zs : Nat} {L : List jPin} {M : List jCt} {I : List jIv} {a k n : Nat} {cA : ClassId} {tys : List (ClassId × FieldType)}
end J16
end
section
def EX14_settleChecksK : List (Nat × Nat) := [(14, 5), (14, 9), (190, 0), (191, 0), (192, 0), (208, 0)]
set_option maxHeartbeats 4000000 in
set_option maxRecDepth 20000 in
theorem uX14_settleChecksK (l : Launch) (dC : Nat → ClassId) (dI : Nat → Nat → Nat) (ca : Nat → ClassId) (base : Nat) (B : jF) (hB : jBok B) (hAp : jAp (dC, dI)) (hB14 : ∀ n G a H, B 14 n G a H ↔ jOb (dC, dI) 14 11 (F14 n G) a H) (hB16 : ∀ n G a H, B 16 n G a H ↔ jOb (dC, dI) 16 74 (F16 n G) a H) (hB101 : ∀ n G a H, B 101 n G a H ↔ jAr (dC, dI) (ca 1) (fun j z => True) n a H) (hB190 : ∀ n G a H, B 190 n G a H ↔ jAr (dC, dI) (ca 1) (fun j z => 0 ≤ z.toInt ∧ z.toInt ≤ 1500) n a H) (hB191 : ∀ n G a H, B 191 n G a H ↔ jAr (dC, dI) (ca 1) (fun j z => 0 ≤ z.toInt ∧ z.toInt ≤ 1500) n a H) (hB192 : ∀ n G a H, B 192 n G a H ↔ jAr (dC, dI) (ca 1) (fun j z => 0 ≤ z.toInt ∧ z.toInt ≤ 2) n a H) (hB194 : ∀ n G a H, B 194 n G a H ↔ jAr (dC, dI) (ca 1) (fun j z => True) n a H) (hB207 : ∀ n G a H, B 207 n G a H ↔ jAr (dC, dI) (ca 1) (fun j z => 0 ≤ z.toInt ∧ z.toInt ≤ 39) n a H) (hB208 : ∀ n G a H, B 208 n G a H ↔ jAq (dC, dI) (ca 4) (jQn 14 0) n G a H) (G0 : jT) (H0 : Heap) (r0 : Nat) (r1 : Nat) (a2 : Int32) (yt : Nat) (pz : Int32) (dd : Nat) (dc : Int32) (co : Nat) (cs : Nat) (ol : Nat) (nw : Nat) (td : Nat) (sn ck : Nat → Int32) (fd fo : Nat → Option Nat) (ft : Nat → Int32) (fs : Nat → Int32) : Met l yX14_settleChecks (jw yX14_settleChecks cX14_settleChecks 4 none) ({ frames := 4, cells := 0, slots := 0, locals := 94 }) (va_Pc [.ref r0, .ref r1, .int a2] (fun U => U.heap = H0 ∧ jX B base G0 [] H0 ∧ jG dC dI ca base U ∧ jK2 dC dI ca U ∧ G0 r1 = some (14, 0) ∧ G0 r0 = some (16, 0) ∧ G0 yt = some (194, 1500) ∧ G0 dd = some (201, 3) ∧ G0 co = some (208, 2) ∧ G0 cs = some (207, 2) ∧ G0 ol = some (14, 0) ∧ G0 nw = some (14, 0) ∧ G0 td = some (14, 0) ∧ jP (dC, dI) G0 H0 [(r1, 14, 3, .ref yt), (r1, 14, 4, .int pz), (r0, 16, 41, .ref dd), (r0, 16, 42, .int dc), (r0, 16, 60, .ref co), (r0, 16, 61, .ref cs), (r0, 16, 46, .ref ol), (r0, 16, 47, .ref nw), (r0, 16, 71, .ref td)] ∧ jMc (dC, dI) G0 H0 [(yt, 194, 1500, ca 1, ft), (cs, 207, 2, ca 1, fs)] ∧ jIs (dC, dI) G0 H0 [(jFs, jDY dC dI ca G0 none sn), (jF9, jVl dC dI G0 9 ck), ([(201, 0)], jQc dC dI (ca 4) dd 3 fd), ([(208, 0)], jQc dC dI (ca 4) co 2 fo)] ∧ jPu sn ck fd fo fs dc.toInt ol nw td ∧ 0 ≤ a2.toInt ∧ a2.toInt ≤ jPar ft pz.toInt ∧ 0 ≤ pz.toInt ∧ pz.toInt ≤ 1500)) (va_Qv (S := Int32 × Int32) (fun u => u.1.toInt ≤ u.2.toInt) (fun u t => (jRt (dC, dI) B base G0 EX14_settleChecksK H0 [(r1, 14, 9, .int u.1), (r1, 14, 5, .int u.2)] t.heap) ∧ jDV dC dI ca G0 r0 dd co cs ol nw td t.heap) (jA base)) 0 0 (jA base) := by
  refine Met.ofW (cc := cX14_settleChecks) (maxL := 4) (ret := none) (by decide) rfl ?_
  intro p e s m args below meth c s₁ Bd hml hv
  obtain ⟨rfl, hH0, hX, hG, hK2, hg_r1, hg_r0, hg_yt, hg_dd, hg_co, hg_cs, hg_ol, hg_nw, hg_td, hP0, hM0, hI0, hp0, hp1, hp2, hp3, hp4⟩ := hv
  have hK := hG.1
  have hx := Bd.exec
  have hb := Bd.bytes
  have hr := Bd.returns
  have hts := atoms_spec (ws := (jw yX14_settleChecks cX14_settleChecks 4 none)) Bd.pre
  have htw : ∀ w ∈ jWl, w.before _ s = true := fun w h => hts w (List.mem_cons_of_mem _ h)
  have hown : s.vm.findClass RX14 = some m.cls := findClass_of_methodNamed Bd.named
  have hlocks := Bd.notSynchronized
  obtain ⟨Q, hQ⟩ : ∃ Q, Q = MQ below (va_Qv (S := Int32 × Int32) (fun u => u.1.toInt ≤ u.2.toInt) (fun u t => (jRt (dC, dI) B base G0 EX14_settleChecksK H0 [(r1, 14, 9, .int u.1), (r1, 14, 5, .int u.2)] t.heap) ∧ jDV dC dI ca G0 r0 dd co cs ol nw td t.heap) (jA base)) ([.ref r0, .ref r1, .int a2] : List Value).toArray s 0 0 (jA base) := ⟨_, rfl⟩
  rw [← hQ]
  have hl := lv_entry ([.ref r0, .ref r1, .int a2]) (n := 4) (Nat.le_of_ble_eq_true rfl)
  rw [lg_entry_eq]
  generalize (lg_sl ([.ref r0, .ref r1, .int a2]) ++ List.replicate (4 - (lg_sl ([.ref r0, .ref r1, .int a2])).length) Slot.unset).toArray = ls at hl ⊢
  have hl : lv_has ls 4 [(0, .ref r0), (1, .ref r1), (2, .int a2)] := hl
  generalize hR : (headSpec (jw yX14_settleChecks cX14_settleChecks 4 none) ({ frames := 4, cells := 0, slots := 0, locals := 94 })).room = R
  subst hH0
  have hh : jSt (dC, dI) B base G0 G0 EX14_settleChecksK s.heap 0 0 [(r1, 14, 3, .ref yt), (r1, 14, 4, .int pz), (r0, 16, 41, .ref dd), (r0, 16, 42, .int dc), (r0, 16, 60, .ref co), (r0, 16, 61, .ref cs), (r0, 16, 46, .ref ol), (r0, 16, 47, .ref nw), (r0, 16, 71, .ref td)] [(yt, 194, 1500, ca 1, ft), (cs, 207, 2, ca 1, fs)] [(jFs, jDY dC dI ca G0 none sn), (jF9, jVl dC dI G0 9 ck), ([(201, 0)], jQc dC dI (ca 4) dd 3 fd), ([(208, 0)], jQc dC dI (ca 4) co 2 fo)] s.heap [] := jSt.start hX hP0 hM0 hI0
  clear hX hP0
  have hk0 : (0 : Int32).toInt = 0 := by decide
  have hk1 : (1 : Int32).toInt = 1 := by decide
  have hk2 : (2 : Int32).toInt = 2 := by decide
  have hly_14_9 := htw (u_lay RX12 TX12 9) (jWc_wsX120 _ (u_in_lay (by decide)))
  have hly_16_60 := htw (u_lay RX14 TX14 60) (jWc_wsX140 _ (u_in_lay (by decide)))
  have hly_16_61 := htw (u_lay RX14 TX14 61) (jWc_wsX140 _ (u_in_lay (by decide)))
  have hlk_531 := (va_Nw.use (A := ([.ref r0, .ref r1, .int a2] : List Value).toArray) rfl (hG.2.1 RX14 531 "ProofServerModel$Document" "checked" "I" "ProofServerModel" (List.mem_of_getElem? (i := 1744) (by decide +kernel))))
  have hlk_129 := (htw (.fieldLink RX14 129 "ProofServerModel" "checkOf" "[LProofServerModel$Document;") (jWr_12 _ (List.mem_of_getElem? (i := 15) rfl)))
  have hlk_132 := (htw (.fieldLink RX14 132 "ProofServerModel" "checkSentence" "[I") (jWr_12 _ (List.mem_of_getElem? (i := 16) rfl)))
  have hrg_a2 := jb_rng a2
  refine lv_aload_n hx hb dX14_settleChecks_0 rfl (lv_at hl 1 rfl) ?_
  have hd_1 := jDY.less (hh.iv 0 rfl) r1
  have hh_2 := hh.sub (L1 := [(r1, 14, 3, .ref yt), (r1, 14, 4, .int pz), (r0, 16, 41, .ref dd), (r0, 16, 42, .int dc), (r0, 16, 60, .ref co), (r0, 16, 61, .ref cs), (r0, 16, 46, .ref ol), (r0, 16, 47, .ref nw), (r0, 16, 71, .ref td)]) [0, 1, 2, 3, 4, 5, 6, 7, 8] rfl (M1 := [(yt, 194, 1500, ca 1, ft), (cs, 207, 2, ca 1, fs)]) [0, 1] rfl (I1 := [(jF9, jVl dC dI G0 9 ck), ([(201, 0)], jQc dC dI (ca 4) dd 3 fd), ([(208, 0)], jQc dC dI (ca 4) co 2 fo)]) [1, 2, 3] rfl
  clear hh
  have hh_3 := hh_2.addI (jDY.ie hd_1)
  clear hh_2
  obtain ⟨v_6, hv_6, hh_7⟩ := hh_3.pin (C := RX12) (T := TX12) (N := 11) hB14 rfl (by decide) hg_r1 (i := 6) (by decide) rfl
  obtain ⟨begin_8, rfl, hg_begin_8⟩ := hv_6
  obtain ⟨v_9, hv_9, hh_10⟩ := hh_7.pin (C := RX12) (T := TX12) (N := 11) hB14 rfl (by decide) hg_r1 (i := 7) (by decide) rfl
  obtain ⟨end_11, rfl, hg_end_11⟩ := hv_9
  obtain ⟨f_fb_12, hh_12⟩ := hh_10.cpin hB190 (by decide) (by decide) hg_begin_8
  clear hh_10
  obtain ⟨f_fe_13, hh_13⟩ := hh_12.cpin hB191 (by decide) (by decide) hg_end_11
  clear hh_12
  refine va_callv (A0 := jA base) (H0 := s.heap) (va_runS (As := [.ref r1]) (rest := []) ⟨hx, hb, hml, hown, hts⟩ (uX14_partD l dC dI ca base B hB hAp hB14 hB101 hB190 hB191 hB192 hB194 G0 s.heap r1 yt pz begin_8 end_11 sn ft f_fb_12 f_fe_13) (va_cwS 1 hts (jgS (jWr_57 _ (List.mem_of_getElem? (i := 10) rfl)) (jWr_57 _ (List.mem_of_getElem? (i := 11) rfl)) (jWr_1 _ (List.mem_of_getElem? (i := 5) rfl)) (jWr_57 _ (List.mem_of_getElem? (i := 12) rfl))) rfl rfl rfl (by decide +kernel) ⟨by rw [← hR]; exact Nat.le_of_ble_eq_true rfl, by rw [← hR]; exact Nat.le_of_ble_eq_true rfl⟩) ⟨fun a U g mk q => by obtain ⟨q0, q1, q2, qK, q10, q11, q12, q13, q14, q15, q16, q17⟩ := q; exact ⟨q0, q1, q2, jG.calling g mk a qK, q10, q11, q12, q13, q14, q15, q16, q17⟩, fun U hU hW => ⟨rfl, hU, hh_13.2.1, hG.step hW hU hh_13.1, hg_r1, hg_yt, hg_begin_8, hg_end_11, (hh_13.2.2.1.sub (L1 := [(r1, 14, 3, .ref yt), (r1, 14, 4, .int pz), (r1, 14, 6, .ref begin_8), (r1, 14, 7, .ref end_11)]) [2, 3, 1, 0] rfl), (hh_13.2.2.2.2.2.2.2.1.sub (L1 := [(yt, 194, 1500, ca 1, ft), (begin_8, 190, 40, ca 1, f_fb_12), (end_11, 191, 40, ca 1, f_fe_13)]) [2, 1, 0] rfl), (hh_13.2.2.2.2.2.2.2.2.sub (L1 := [(jFs, jDY dC dI ca G0 (some r1) sn)]) [0] rfl), by first | omega | (refine ⟨?_, ?_⟩ <;> (first | omega | rfl | assumption | decide | exact Or.inl rfl | exact Or.inr rfl | (simp only; omega)))⟩⟩ rfl rfl hl.1 rfl (lv_room (Nat.le_of_ble_eq_true rfl)) dX14_settleChecks_1 ⟨Nat.zero_le _, Nat.zero_le _⟩) hh_13.1 (fun q _ h => h) (fun q h => h) (fun u_4 t_4 H_4 locs_4 ht_4 hvm_4 hr_5 hb_4 hz_4 hk_4 hS_4 => ?_)
  obtain ⟨qs_4, gb_4, ge_4⟩ := u_4
  rw [ht_4] at hb_4
  obtain ⟨hb_4, hbV_4⟩ := hb_4
  obtain ⟨⟨hb_41, hb_42, hb_43, hb_44, hb_45⟩, hb_46⟩ := hb_4
  have hh_4 : jSt (dC, dI) B base G0 G0 EX14_settleChecksK s.heap 0 0 [(r1, 14, 5, .int qs_4), (r1, 14, 7, .ref end_11), (r1, 14, 6, .ref begin_8), (r1, 14, 3, .ref yt), (r1, 14, 4, .int pz), (r0, 16, 41, .ref dd), (r0, 16, 42, .int dc), (r0, 16, 60, .ref co), (r0, 16, 61, .ref cs), (r0, 16, 46, .ref ol), (r0, 16, 47, .ref nw), (r0, 16, 71, .ref td)] [(begin_8, 190, 40, ca 1, gb_4), (end_11, 191, 40, ca 1, ge_4), (yt, 194, 1500, ca 1, ft), (cs, 207, 2, ca 1, fs)] [(jFs, jDY dC dI ca G0 (some r1) sn), (jF9, jVl dC dI G0 9 ck), ([(201, 0)], jQc dC dI (ca 4) dd 3 fd), ([(208, 0)], jQc dC dI (ca 4) co 2 fo)] H_4 locs_4 := (((hh_13.call hb_41 hb_42 hb_43 hb_44 hS_4 rfl (L1 := [(r1, 14, 7, .ref end_11), (r1, 14, 6, .ref begin_8), (r1, 14, 3, .ref yt), (r1, 14, 4, .int pz), (r0, 16, 41, .ref dd), (r0, 16, 42, .int dc), (r0, 16, 60, .ref co), (r0, 16, 61, .ref cs), (r0, 16, 46, .ref ol), (r0, 16, 47, .ref nw), (r0, 16, 71, .ref td)]) [0, 1, 2, 3, 4, 5, 6, 7, 8, 9, 10] rfl rfl (M1 := [(yt, 194, 1500, ca 1, ft), (cs, 207, 2, ca 1, fs)]) [2, 3] rfl rfl (I1 := [(jF9, jVl dC dI G0 9 ck), ([(201, 0)], jQc dC dI (ca 4) dd 3 fd), ([(208, 0)], jQc dC dI (ca 4) co 2 fo)]) [1, 2, 3] rfl rfl).more hb_45).moreM hb_46).addIs hbV_4
  clear hh_13 ht_4 hvm_4 hz_4 hk_4 hS_4 hb_41 hb_42 hb_43 hb_44 hb_45
  clear hb_46
  clear hbV_4
  try simp only at hr_5
  obtain ⟨hr_5_0, hr_5_1, hr_5_2, hr_5_3⟩ := hr_5
  have hd_14 := jDY.full (hh_4.iv 0 rfl) hg_r1 hg_begin_8 hg_end_11 (hh_4.2.2.1.sub (L1 := [(r1, 14, 6, .ref begin_8), (r1, 14, 7, .ref end_11), (r1, 14, 5, .int qs_4)]) [2, 1, 0] rfl) (hh_4.2.2.2.2.2.2.2.1.sub (L1 := [(begin_8, 190, 40, ca 1, gb_4), (end_11, 191, 40, ca 1, ge_4)]) [0, 1] rfl) (hr_5_3.up (by omega)) (by omega) (by omega)
  have hh_15 := hh_4.sub (L1 := [(r1, 14, 5, .int qs_4), (r1, 14, 7, .ref end_11), (r1, 14, 6, .ref begin_8), (r1, 14, 3, .ref yt), (r1, 14, 4, .int pz), (r0, 16, 41, .ref dd), (r0, 16, 42, .int dc), (r0, 16, 60, .ref co), (r0, 16, 61, .ref cs), (r0, 16, 46, .ref ol), (r0, 16, 47, .ref nw), (r0, 16, 71, .ref td)]) [0, 1, 2, 3, 4, 5, 6, 7, 8, 9, 10, 11] rfl (M1 := [(begin_8, 190, 40, ca 1, gb_4), (end_11, 191, 40, ca 1, ge_4), (yt, 194, 1500, ca 1, ft), (cs, 207, 2, ca 1, fs)]) [0, 1, 2, 3] rfl (I1 := [(jF9, jVl dC dI G0 9 ck), ([(201, 0)], jQc dC dI (ca 4) dd 3 fd), ([(208, 0)], jQc dC dI (ca 4) co 2 fo)]) [1, 2, 3] rfl
  clear hh_4
  have hh_16 := hh_15.addI (jDY.ie hd_14)
  clear hh_15
  refine lv_aload_n hx hb dX14_settleChecks_4 rfl (lv_at hl 1 rfl) ?_
  obtain ⟨yb_17, ye_17, fb_17, fe_17, hg_yb_17, hg_ye_17, hP_17, hM_17, hs_17, h0_17, h4_17⟩ := jDY.at (hh_16.iv 0 rfl) hg_r1 (fun q => by cases q)
  have hh_18 := (hh_16.more hP_17).moreM hM_17
  clear hh_16 hP_17 hM_17
  have hh_19 := hh_18.more (jVl.at (hh_18.iv 1 rfl) hg_r1)
  clear hh_18
  obtain ⟨sx_20, esx_20, hsx_20⟩ := hh_19.sat (C := RX12) (T := TX12) (N := 11) hB14 rfl (by decide) hg_r1 (i := 9) (by decide) rfl 0 rfl
  cases esx_20
  refine j7_readN hx hb hown hK (C := RX12) (T := TX12) (N := 11) rfl hly_14_9 hlk_531 (hh_19.at 0 rfl) dX14_settleChecks_5 ?_
  refine lv_iload_n hx hb dX14_settleChecks_8 rfl (lv_at hl 2 rfl) ?_
  have C17 : ∀ (ck_21 : Nat → Int32) (H_21 : Heap) (locs_21 : List Loc), jSt (dC, dI) B base G0 G0 EX14_settleChecksK s.heap 0 0 [(r1, 14, 6, .ref yb_17), (r1, 14, 7, .ref ye_17), (r1, 14, 5, .int ((jUn sn r1 qs_4) r1)), (r1, 14, 3, .ref yt), (r1, 14, 4, .int pz), (r0, 16, 41, .ref dd), (r0, 16, 42, .int dc), (r0, 16, 60, .ref co), (r0, 16, 61, .ref cs), (r0, 16, 46, .ref ol), (r0, 16, 47, .ref nw), (r0, 16, 71, .ref td)] [(yb_17, 190, 40, ca 1, fb_17), (ye_17, 191, 40, ca 1, fe_17), (begin_8, 190, 40, ca 1, gb_4), (end_11, 191, 40, ca 1, ge_4), (yt, 194, 1500, ca 1, ft), (cs, 207, 2, ca 1, fs)] [(jFs, jDY dC dI ca G0 none (jUn sn r1 qs_4)), (jF9, jVl dC dI G0 9 ck_21), ([(201, 0)], jQc dC dI (ca 4) dd 3 fd), ([(208, 0)], jQc dC dI (ca 4) co 2 fo)] H_21 locs_21 → (jPv (jUn sn r1 qs_4) ck_21 fd fo fs dc.toInt ol nw td r1 a2.toInt 0) → ∀ ls : Array Slot, lv_has ls 4 [(0, .ref r0), (1, .ref r1), (2, .int a2)] → W p l e R s m ([.ref r0, .ref r1, .int a2] : List Value).toArray below meth c H_21 locs_21 0 0 Q (F0 m 17 ls []) := by
    intro ck_21 H_21 locs_21 hh_21  hi_21 ls hl
    refine lv_iconst (v := 0) hx hb dX14_settleChecks_17 (by decide) ?_
    refine lv_istore_n (lv' := [(3, .int 0), (0, .ref r0), (1, .ref r1), (2, .int a2)]) hx hb dX14_settleChecks_18 rfl hl (by decide) rfl (fun ls hl => ?_)
    have L19 : ∀ (N : Nat) (v3_22 : Int32) (fo_22 : Nat → Option Nat) (H_22 : Heap) (locs_22 : List Loc), jSt (dC, dI) B base G0 G0 EX14_settleChecksK s.heap 0 0 [(r1, 14, 6, .ref yb_17), (r1, 14, 7, .ref ye_17), (r1, 14, 5, .int ((jUn sn r1 qs_4) r1)), (r1, 14, 3, .ref yt), (r1, 14, 4, .int pz), (r0, 16, 41, .ref dd), (r0, 16, 42, .int dc), (r0, 16, 60, .ref co), (r0, 16, 61, .ref cs), (r0, 16, 46, .ref ol), (r0, 16, 47, .ref nw), (r0, 16, 71, .ref td)] [(yb_17, 190, 40, ca 1, fb_17), (ye_17, 191, 40, ca 1, fe_17), (begin_8, 190, 40, ca 1, gb_4), (end_11, 191, 40, ca 1, ge_4), (yt, 194, 1500, ca 1, ft), (cs, 207, 2, ca 1, fs)] [(jFs, jDY dC dI ca G0 none (jUn sn r1 qs_4)), (jF9, jVl dC dI G0 9 ck_21), ([(201, 0)], jQc dC dI (ca 4) dd 3 fd), ([(208, 0)], jQc dC dI (ca 4) co 2 fo_22)] H_22 locs_22 → (jPv (jUn sn r1 qs_4) ck_21 fd fo_22 fs dc.toInt ol nw td r1 a2.toInt v3_22.toInt ∧ 0 ≤ v3_22.toInt ∧ v3_22.toInt ≤ 2) → (2 - v3_22.toInt : Int) < N → ∀ ls : Array Slot, lv_has ls 4 [(0, .ref r0), (1, .ref r1), (2, .int a2), (3, .int v3_22)] → W p l e R s m ([.ref r0, .ref r1, .int a2] : List Value).toArray below meth c H_22 locs_22 0 0 Q (F0 m 19 ls []) := by
      intro N
      induction N with
      | zero => intro v3_22 fo_22 H_22 locs_22 hh_22  hi_22 hm; exact absurd hm (by omega)
      | succ N L19 =>
        intro v3_22 fo_22 H_22 locs_22 hh_22  hi_22 hm_22 ls hl
        obtain ⟨hi_22_0, hi_22_1, hi_22_2⟩ := hi_22
        refine lv_iload_n hx hb dX14_settleChecks_19 rfl (lv_at hl 3 rfl) ?_
        refine lv_iconst (v := 2) hx hb dX14_settleChecks_20 (by decide) ?_
        refine lv_icmp_ge (tgt := 57) hx hb dX14_settleChecks_21 (by decide) (fun c_23 => ?_) (fun c_23 => ?_)
        · skip
          have c_23' : v3_22.toInt ≥ 2 := jb_ge (rfl) ((by decide)) c_23
          obtain ⟨yb_24, ye_24, fb_24, fe_24, hg_yb_24, hg_ye_24, hP_24, hM_24, hs_24, h0_24, h4_24⟩ := jDY.at (hh_22.iv 0 rfl) hg_r1 (fun q => by cases q)
          have hh_25 := (hh_22.more hP_24).moreM hM_24
          clear hh_22 hP_24 hM_24
          have hh_26 := hh_25.more (jVl.at (hh_25.iv 1 rfl) hg_r1)
          clear hh_25
          obtain ⟨sx_27, esx_27, hsx_27⟩ := hh_26.sat (C := RX12) (T := TX12) (N := 11) hB14 rfl (by decide) hg_r1 (i := 9) (by decide) rfl 0 rfl
          cases esx_27
          rw [hQ]
          exact W.vret hx hb hr (fun t ht hW => ⟨⟨((ck_21 r1), ((jUn sn r1 qs_4) r1)), rfl, by (try dsimp only); have h9 := hi_22_0.2.2.2.1; omega, ⟨hh_26.rt (M1 := [(r1, 14, 9, .int (ck_21 r1)), (r1, 14, 5, .int ((jUn sn r1 qs_4) r1))]) [0, 3] rfl ht, by rw [ht]; exact ⟨(jUn sn r1 qs_4), ck_21, fs, fd, fo_22, dc, hh_26.2.2.1.sub (L1 := [(r0, 16, 41, .ref dd), (r0, 16, 42, .int dc), (r0, 16, 60, .ref co), (r0, 16, 61, .ref cs), (r0, 16, 46, .ref ol), (r0, 16, 47, .ref nw), (r0, 16, 71, .ref td)]) [9, 10, 11, 12, 13, 14, 15] rfl, hh_26.2.2.2.2.2.2.2.1.sub (L1 := [(cs, 207, 2, ca 1, fs)]) [7] rfl, hh_26.2.2.2.2.2.2.2.2.sub (L1 := [(jFs, jDY dC dI ca G0 none (jUn sn r1 qs_4)), (jF9, jVl dC dI G0 9 ck_21), ([(201, 0)], jQc dC dI (ca 4) dd 3 fd), ([(208, 0)], jQc dC dI (ca 4) co 2 fo_22)]) [0, 1, 2, 3] rfl, hi_22_0.done (by omega)⟩⟩⟩, by rw [ht]; try exact hh_26.1.1, fun q h9 hq => by rw [ht]; try exact hh_26.1.2.1 q h9 hq⟩) hh_26.1.2.2 dX14_settleChecks_57
        · skip
          have c_23' : v3_22.toInt < 2 := jb_ge_n (rfl) ((by decide)) c_23
          refine lv_aload_n hx hb dX14_settleChecks_24 rfl (lv_at hl 0 rfl) ?_
          refine j7_read hx hb hown hK (C := RX14) (T := TX14) (N := 74) rfl hly_16_60 hlk_129 (hh_22.at 7 rfl) dX14_settleChecks_25 ?_
          refine lv_iload_n hx hb dX14_settleChecks_28 rfl (lv_at hl 3 rfl) ?_
          refine j7_qaldI hx hb hK2 hh_22 hB208 0 rfl (by decide) hg_co (x := v3_22.toInt) (rfl) (by omega) (hh_22.iv 3 rfl) dX14_settleChecks_29 (fun o_28 ho_28 heo_28 => ?_)
          rcases ho_28 with rfl | ⟨el_29, rfl, hg_el_29⟩
          · simp only [va_rf]
            refine lv_aload_n hx hb dX14_settleChecks_30 rfl (lv_at hl 1 rfl) ?_
            refine lv_acmp_ne (rx := none) (ry := (some r1)) (tgt := 51) hx hb dX14_settleChecks_31 (by decide) (fun c_30 => ?_) (fun c_30 => ?_)
            · skip
              obtain ⟨z_31, ez_31⟩ : ∃ y : Int32, y = v3_22 + 1 := ⟨_, rfl⟩
              refine lv_iinc (v := z_31) (lv' := [(3, .int z_31), (0, .ref r0), (1, .ref r1), (2, .int a2)]) hx hb dX14_settleChecks_51 hl (k := 3) rfl (by rw [ez_31]; rfl) (by decide) rfl (fun ls hl => ?_)
              have hz_31 : z_31.toInt = v3_22.toInt + 1 := by rw [ez_31]; exact jb_iadd2 (rfl) (by decide) (by omega)
              refine lv_goto (tgt := 19) hx hb dX14_settleChecks_54 (by decide) ?_
              exact L19 z_31 fo_22 _ _ hh_22 (by refine ⟨?_, by omega, by omega⟩; first | exact hi_22_0.null (w := v3_22.toInt.toNat) (zz_none) (zz_none) (by omega) (by omega) | exact hi_22_0.keep (w := v3_22.toInt.toNat) (Or.inr (by have h9 := (zz_none); unfold jSo at h9; omega)) (by omega) (by omega) | exact hi_22_0.keep (w := v3_22.toInt.toNat) (Or.inl (by rw [← heo_28]; first | assumption | exact (fun q => nomatch q))) (by omega) (by omega)) (by omega) _ (lv_sub hl [1, 2, 3, 0] rfl)
            · skip
              cases c_30
          · simp only [va_rf]
            refine lv_aload_n hx hb dX14_settleChecks_30 rfl (lv_at hl 1 rfl) ?_
            refine lv_acmp_ne (rx := (some el_29)) (ry := (some r1)) (tgt := 51) hx hb dX14_settleChecks_31 (by decide) (fun c_32 => ?_) (fun c_32 => ?_)
            · skip
              obtain ⟨z_33, ez_33⟩ : ∃ y : Int32, y = v3_22 + 1 := ⟨_, rfl⟩
              refine lv_iinc (v := z_33) (lv' := [(3, .int z_33), (0, .ref r0), (1, .ref r1), (2, .int a2)]) hx hb dX14_settleChecks_51 hl (k := 3) rfl (by rw [ez_33]; rfl) (by decide) rfl (fun ls hl => ?_)
              have hz_33 : z_33.toInt = v3_22.toInt + 1 := by rw [ez_33]; exact jb_iadd2 (rfl) (by decide) (by omega)
              refine lv_goto (tgt := 19) hx hb dX14_settleChecks_54 (by decide) ?_
              exact L19 z_33 fo_22 _ _ hh_22 (by refine ⟨?_, by omega, by omega⟩; first | exact hi_22_0.null (w := v3_22.toInt.toNat) (zz_none) (zz_none) (by omega) (by omega) | exact hi_22_0.keep (w := v3_22.toInt.toNat) (Or.inr (by have h9 := (zz_none); unfold jSo at h9; omega)) (by omega) (by omega) | exact hi_22_0.keep (w := v3_22.toInt.toNat) (Or.inl (by rw [← heo_28]; first | assumption | exact (fun q => nomatch q))) (by omega) (by omega)) (by omega) _ (lv_sub hl [1, 2, 3, 0] rfl)
            · skip
              refine lv_aload_n hx hb dX14_settleChecks_34 rfl (lv_at hl 0 rfl) ?_
              refine j7_read hx hb hown hK (C := RX14) (T := TX14) (N := 74) rfl hly_16_61 hlk_132 (hh_22.at 8 rfl) dX14_settleChecks_35 ?_
              refine lv_iload_n hx hb dX14_settleChecks_38 rfl (lv_at hl 3 rfl) ?_
              refine j7_ialdM hx hb hK hh_22 hB207 1 rfl (by decide) hg_cs (x := v3_22.toInt) (rfl) (by omega) (j := 5) rfl dX14_settleChecks_39 (fun z_34 ez_34 (hz_34 : 0 ≤ z_34.toInt ∧ z_34.toInt ≤ 39) => ?_)
              have hqz_34 : z_34.toInt = jSo fs (v3_22.toInt) := by unfold jSo; rw [ez_34]
              refine lv_iload_n hx hb dX14_settleChecks_40 rfl (lv_at hl 2 rfl) ?_
              refine lv_icmp_lt (tgt := 51) hx hb dX14_settleChecks_41 (by decide) (fun c_35 => ?_) (fun c_35 => ?_)
              · skip
                have c_35' : z_34.toInt < a2.toInt := jb_lt (rfl) (rfl) c_35
                obtain ⟨z_36, ez_36⟩ : ∃ y : Int32, y = v3_22 + 1 := ⟨_, rfl⟩
                refine lv_iinc (v := z_36) (lv' := [(3, .int z_36), (0, .ref r0), (1, .ref r1), (2, .int a2)]) hx hb dX14_settleChecks_51 hl (k := 3) rfl (by rw [ez_36]; rfl) (by decide) rfl (fun ls hl => ?_)
                have hz_36 : z_36.toInt = v3_22.toInt + 1 := by rw [ez_36]; exact jb_iadd2 (rfl) (by decide) (by omega)
                refine lv_goto (tgt := 19) hx hb dX14_settleChecks_54 (by decide) ?_
                exact L19 z_36 fo_22 _ _ hh_22 (by refine ⟨?_, by omega, by omega⟩; first | exact hi_22_0.null (w := v3_22.toInt.toNat) (zz_none) (zz_none) (by omega) (by omega) | exact hi_22_0.keep (w := v3_22.toInt.toNat) (Or.inr (by have h9 := hqz_34; unfold jSo at h9; omega)) (by omega) (by omega) | exact hi_22_0.keep (w := v3_22.toInt.toNat) (Or.inl (by rw [← heo_28]; first | assumption | exact (fun q => nomatch q))) (by omega) (by omega)) (by omega) _ (lv_sub hl [1, 2, 3, 0] rfl)
              · skip
                have c_35' : z_34.toInt ≥ a2.toInt := jb_lt_n (rfl) (rfl) c_35
                refine lv_aload_n hx hb dX14_settleChecks_44 rfl (lv_at hl 0 rfl) ?_
                refine j7_read hx hb hown hK (C := RX14) (T := TX14) (N := 74) rfl hly_16_60 hlk_129 (hh_22.at 7 rfl) dX14_settleChecks_45 ?_
                refine lv_iload_n hx hb dX14_settleChecks_48 rfl (lv_at hl 3 rfl) ?_
                refine lv_null hx hb dX14_settleChecks_49 ?_
                have hd_38 := hh_22.iv 3 rfl
                have hh_40 := hh_22.sub (L1 := [(r1, 14, 6, .ref yb_17), (r1, 14, 7, .ref ye_17), (r1, 14, 5, .int ((jUn sn r1 qs_4) r1)), (r1, 14, 3, .ref yt), (r1, 14, 4, .int pz), (r0, 16, 41, .ref dd), (r0, 16, 42, .int dc), (r0, 16, 60, .ref co), (r0, 16, 61, .ref cs), (r0, 16, 46, .ref ol), (r0, 16, 47, .ref nw), (r0, 16, 71, .ref td)]) [0, 1, 2, 3, 4, 5, 6, 7, 8, 9, 10, 11] rfl (M1 := [(yb_17, 190, 40, ca 1, fb_17), (ye_17, 191, 40, ca 1, fe_17), (begin_8, 190, 40, ca 1, gb_4), (end_11, 191, 40, ca 1, ge_4), (yt, 194, 1500, ca 1, ft), (cs, 207, 2, ca 1, fs)]) [0, 1, 2, 3, 4, 5] rfl (I1 := [(jFs, jDY dC dI ca G0 none (jUn sn r1 qs_4)), (jF9, jVl dC dI G0 9 ck_21), ([(201, 0)], jQc dC dI (ca 4) dd 3 fd)]) [0, 1, 2] rfl
                clear hh_22
                refine j7_qastNI hx hb hK2 hh_40 hB hB208 0 rfl (by decide) (by decide) rfl rfl rfl hg_co (x := v3_22.toInt) (rfl) (by omega) (Or.inl rfl) hd_38 dX14_settleChecks_50 (fun H_37 locs_37 fq_39 hv_37 ho_37 hq_37 hh_37 => ?_)
                clear hh_40
                have hh_41 := hh_37.addI (hq_37.ie hg_co (by decide) (by decide))
                clear hh_37
                clear hd_38
                obtain ⟨z_42, ez_42⟩ : ∃ y : Int32, y = v3_22 + 1 := ⟨_, rfl⟩
                refine lv_iinc (v := z_42) (lv' := [(3, .int z_42), (0, .ref r0), (1, .ref r1), (2, .int a2)]) hx hb dX14_settleChecks_51 hl (k := 3) rfl (by rw [ez_42]; rfl) (by decide) rfl (fun ls hl => ?_)
                have hz_42 : z_42.toInt = v3_22.toInt + 1 := by rw [ez_42]; exact jb_iadd2 (rfl) (by decide) (by omega)
                refine lv_goto (tgt := 19) hx hb dX14_settleChecks_54 (by decide) ?_
                exact L19 z_42 fq_39 _ _ (hh_41.sub (L1 := [(r1, 14, 6, .ref yb_17), (r1, 14, 7, .ref ye_17), (r1, 14, 5, .int ((jUn sn r1 qs_4) r1)), (r1, 14, 3, .ref yt), (r1, 14, 4, .int pz), (r0, 16, 41, .ref dd), (r0, 16, 42, .int dc), (r0, 16, 60, .ref co), (r0, 16, 61, .ref cs), (r0, 16, 46, .ref ol), (r0, 16, 47, .ref nw), (r0, 16, 71, .ref td)]) [0, 1, 2, 3, 4, 5, 6, 7, 8, 9, 10, 11] rfl (M1 := [(yb_17, 190, 40, ca 1, fb_17), (ye_17, 191, 40, ca 1, fe_17), (begin_8, 190, 40, ca 1, gb_4), (end_11, 191, 40, ca 1, ge_4), (yt, 194, 1500, ca 1, ft), (cs, 207, 2, ca 1, fs)]) [0, 1, 2, 3, 4, 5] rfl (I1 := [(jFs, jDY dC dI ca G0 none (jUn sn r1 qs_4)), (jF9, jVl dC dI G0 9 ck_21), ([(201, 0)], jQc dC dI (ca 4) dd 3 fd), ([(208, 0)], jQc dC dI (ca 4) co 2 fq_39)]) [1, 2, 3, 0] rfl) (by refine ⟨?_, by omega, by omega⟩; first | exact hi_22_0.null (w := v3_22.toInt.toNat) hv_37 ho_37 (by omega) (by omega) | exact hi_22_0.keep (w := v3_22.toInt.toNat) (Or.inr (by have h9 := hqz_34; unfold jSo at h9; omega)) (by omega) (by omega) | exact hi_22_0.keep (w := v3_22.toInt.toNat) (Or.inl (by rw [← heo_28]; first | assumption | exact (fun q => nomatch q))) (by omega) (by omega)) (by omega) _ (lv_sub hl [1, 2, 3, 0] rfl)
    exact L19 (2 - (0 : Int32).toInt : Int).toNat.succ 0 fo _ _ hh_21 (by refine ⟨?_, by omega, by omega⟩; rw [hk0]; exact hi_21) (by omega) _ (lv_sub hl [1, 2, 3, 0] rfl)
  refine lv_icmp_le (tgt := 17) hx hb dX14_settleChecks_9 (by decide) (fun c_43 => ?_) (fun c_43 => ?_)
  · skip
    have c_43' : (ck r1).toInt ≤ a2.toInt := jb_le (rfl) (rfl) c_43
    exact C17 ck _ _ (hh_19.sub (L1 := [(r1, 14, 6, .ref yb_17), (r1, 14, 7, .ref ye_17), (r1, 14, 5, .int ((jUn sn r1 qs_4) r1)), (r1, 14, 3, .ref yt), (r1, 14, 4, .int pz), (r0, 16, 41, .ref dd), (r0, 16, 42, .int dc), (r0, 16, 60, .ref co), (r0, 16, 61, .ref cs), (r0, 16, 46, .ref ol), (r0, 16, 47, .ref nw), (r0, 16, 71, .ref td)]) [1, 2, 3, 7, 8, 9, 10, 11, 12, 13, 14, 15] rfl (M1 := [(yb_17, 190, 40, ca 1, fb_17), (ye_17, 191, 40, ca 1, fe_17), (begin_8, 190, 40, ca 1, gb_4), (end_11, 191, 40, ca 1, ge_4), (yt, 194, 1500, ca 1, ft), (cs, 207, 2, ca 1, fs)]) [0, 1, 2, 3, 4, 5] rfl (I1 := [(jFs, jDY dC dI ca G0 none (jUn sn r1 qs_4)), (jF9, jVl dC dI G0 9 ck), ([(201, 0)], jQc dC dI (ca 4) dd 3 fd), ([(208, 0)], jQc dC dI (ca 4) co 2 fo)]) [0, 1, 2, 3] rfl) (by first | assumption | exact hp0.set (by omega) (by rw [jUn_e]; omega) (fun a h => jUn_n _ _ h) | exact hp0.set (by omega) (by omega) (fun a h => rfl) | omega) _ (lv_sub hl [0, 1, 2] rfl)
  · skip
    have c_43' : (ck r1).toInt > a2.toInt := jb_le_n (rfl) (rfl) c_43
    refine lv_aload_n hx hb dX14_settleChecks_12 rfl (lv_at hl 1 rfl) ?_
    refine lv_iload_n hx hb dX14_settleChecks_13 rfl (lv_at hl 2 rfl) ?_
    have hd_45 := hh_19.iv 1 rfl
    have hh_46 := hh_19.sub (L1 := [(r1, 14, 9, .int (ck r1)), (r1, 14, 6, .ref yb_17), (r1, 14, 7, .ref ye_17), (r1, 14, 5, .int ((jUn sn r1 qs_4) r1)), (r1, 14, 5, .int qs_4), (r1, 14, 7, .ref end_11), (r1, 14, 6, .ref begin_8), (r1, 14, 3, .ref yt), (r1, 14, 4, .int pz), (r0, 16, 41, .ref dd), (r0, 16, 42, .int dc), (r0, 16, 60, .ref co), (r0, 16, 61, .ref cs), (r0, 16, 46, .ref ol), (r0, 16, 47, .ref nw), (r0, 16, 71, .ref td)]) [0, 1, 2, 3, 4, 5, 6, 7, 8, 9, 10, 11, 12, 13, 14, 15] rfl (M1 := [(yb_17, 190, 40, ca 1, fb_17), (ye_17, 191, 40, ca 1, fe_17), (begin_8, 190, 40, ca 1, gb_4), (end_11, 191, 40, ca 1, ge_4), (yt, 194, 1500, ca 1, ft), (cs, 207, 2, ca 1, fs)]) [0, 1, 2, 3, 4, 5] rfl (I1 := [(jFs, jDY dC dI ca G0 none (jUn sn r1 qs_4)), ([(201, 0)], jQc dC dI (ca 4) dd 3 fd), ([(208, 0)], jQc dC dI (ca 4) co 2 fo)]) [0, 2, 3] rfl
    clear hh_19
    refine j7_putNX hx hb hown hK hh_46 hB hAp hB14 (C := RX12) (T := TX12) (N := 11) rfl (by decide) hg_r1 (i := 9) (by decide) hly_14_9 rfl hlk_531 rfl (ty := .int) (v := .int a2) (by decide +kernel) rfl rfl (⟨_, rfl, by omega, by omega⟩) rfl (L1 := [(r1, 14, 6, .ref yb_17), (r1, 14, 7, .ref ye_17), (r1, 14, 5, .int ((jUn sn r1 qs_4) r1)), (r1, 14, 5, .int qs_4), (r1, 14, 7, .ref end_11), (r1, 14, 6, .ref begin_8), (r1, 14, 3, .ref yt), (r1, 14, 4, .int pz), (r0, 16, 41, .ref dd), (r0, 16, 42, .int dc), (r0, 16, 60, .ref co), (r0, 16, 61, .ref cs), (r0, 16, 46, .ref ol), (r0, 16, 47, .ref nw), (r0, 16, 71, .ref td)]) [1, 2, 3, 4, 5, 6, 7, 8, 9, 10, 11, 12, 13, 14, 15] rfl rfl rfl dX14_settleChecks_14 (fun H_44 locs_44 hr_44 hf_44 hh_44 => ?_)
    clear hh_46
    have hd_45n := jVl.put hd_45 hr_44 (hh_44.at 0 rfl)
    have hh_47 := hh_44.addI (jVl.ie hd_45n)
    clear hh_44
    clear hd_45 hd_45n hr_44 hf_44
    exact C17 (jUn ck r1 a2) _ _ (hh_47.sub (L1 := [(r1, 14, 6, .ref yb_17), (r1, 14, 7, .ref ye_17), (r1, 14, 5, .int ((jUn sn r1 qs_4) r1)), (r1, 14, 3, .ref yt), (r1, 14, 4, .int pz), (r0, 16, 41, .ref dd), (r0, 16, 42, .int dc), (r0, 16, 60, .ref co), (r0, 16, 61, .ref cs), (r0, 16, 46, .ref ol), (r0, 16, 47, .ref nw), (r0, 16, 71, .ref td)]) [1, 2, 3, 7, 8, 9, 10, 11, 12, 13, 14, 15] rfl (M1 := [(yb_17, 190, 40, ca 1, fb_17), (ye_17, 191, 40, ca 1, fe_17), (begin_8, 190, 40, ca 1, gb_4), (end_11, 191, 40, ca 1, ge_4), (yt, 194, 1500, ca 1, ft), (cs, 207, 2, ca 1, fs)]) [0, 1, 2, 3, 4, 5] rfl (I1 := [(jFs, jDY dC dI ca G0 none (jUn sn r1 qs_4)), (jF9, jVl dC dI G0 9 (jUn ck r1 a2)), ([(201, 0)], jQc dC dI (ca 4) dd 3 fd), ([(208, 0)], jQc dC dI (ca 4) co 2 fo)]) [1, 0, 2, 3] rfl) (by first | assumption | exact hp0.set (by omega) (by rw [jUn_e]; omega) (fun a h => jUn_n _ _ h) | exact hp0.set (by omega) (by omega) (fun a h => rfl) | omega) _ (lv_sub hl [0, 1, 2] rfl)
end
section
theorem dX14_same_0 : decode cX14_same 0 = .ok (.aload_n 0, 1) := by decide +kernel
theorem dX14_same_1 : decode cX14_same 1 = .ok (.getfield 84, 3) := by decide +kernel
theorem dX14_same_4 : decode cX14_same 4 = .ok (.aload_n 1, 1) := by decide +kernel
theorem dX14_same_5 : decode cX14_same 5 = .ok (.getfield 526, 3) := by decide +kernel
theorem dX14_same_8 : decode cX14_same 8 = .ok (.putfield 526, 3) := by decide +kernel
theorem dX14_same_11 : decode cX14_same 11 = .ok (.iconst 0, 1) := by decide +kernel
theorem dX14_same_12 : decode cX14_same 12 = .ok (.istore_n 2, 1) := by decide +kernel
theorem dX14_same_13 : decode cX14_same 13 = .ok (.iload_n 2, 1) := by decide +kernel
theorem dX14_same_14 : decode cX14_same 14 = .ok (.aload_n 1, 1) := by decide +kernel
theorem dX14_same_15 : decode cX14_same 15 = .ok (.getfield 526, 3) := by decide +kernel
theorem dX14_same_18 : decode cX14_same 18 = .ok (.if_icmp .ge 24, 3) := by decide +kernel
theorem dX14_same_21 : decode cX14_same 21 = .ok (.aload_n 0, 1) := by decide +kernel
theorem dX14_same_22 : decode cX14_same 22 = .ok (.getfield 84, 3) := by decide +kernel
theorem dX14_same_25 : decode cX14_same 25 = .ok (.getfield 529, 3) := by decide +kernel
theorem dX14_same_28 : decode cX14_same 28 = .ok (.iload_n 2, 1) := by decide +kernel
theorem dX14_same_29 : decode cX14_same 29 = .ok (.aload_n 1, 1) := by decide +kernel
theorem dX14_same_30 : decode cX14_same 30 = .ok (.getfield 529, 3) := by decide +kernel
theorem dX14_same_33 : decode cX14_same 33 = .ok (.iload_n 2, 1) := by decide +kernel
theorem dX14_same_34 : decode cX14_same 34 = .ok (.iaload, 1) := by decide +kernel
theorem dX14_same_35 : decode cX14_same 35 = .ok (.iastore, 1) := by decide +kernel
theorem dX14_same_36 : decode cX14_same 36 = .ok (.iinc 2 1, 3) := by decide +kernel
theorem dX14_same_39 : decode cX14_same 39 = .ok (.goto (-26), 3) := by decide +kernel
theorem dX14_same_42 : decode cX14_same 42 = .ok (.aload_n 0, 1) := by decide +kernel
theorem dX14_same_43 : decode cX14_same 43 = .ok (.getfield 84, 3) := by decide +kernel
theorem dX14_same_46 : decode cX14_same 46 = .ok (.invokestatic 534, 3) := by decide +kernel
theorem dX14_same_49 : decode cX14_same 49 = .ok (.aload_n 0, 1) := by decide +kernel
theorem dX14_same_50 : decode cX14_same 50 = .ok (.getfield 88, 3) := by decide +kernel
theorem dX14_same_53 : decode cX14_same 53 = .ok (.aload_n 0, 1) := by decide +kernel
theorem dX14_same_54 : decode cX14_same 54 = .ok (.getfield 550, 3) := by decide +kernel
theorem dX14_same_57 : decode cX14_same 57 = .ok (.putfield 526, 3) := by decide +kernel
theorem dX14_same_60 : decode cX14_same 60 = .ok (.iconst 0, 1) := by decide +kernel
theorem dX14_same_61 : decode cX14_same 61 = .ok (.istore_n 2, 1) := by decide +kernel
theorem dX14_same_62 : decode cX14_same 62 = .ok (.iload_n 2, 1) := by decide +kernel
theorem dX14_same_63 : decode cX14_same 63 = .ok (.aload_n 0, 1) := by decide +kernel
theorem dX14_same_64 : decode cX14_same 64 = .ok (.getfield 550, 3) := by decide +kernel
theorem dX14_same_67 : decode cX14_same 67 = .ok (.if_icmp .ge 24, 3) := by decide +kernel
theorem dX14_same_70 : decode cX14_same 70 = .ok (.aload_n 0, 1) := by decide +kernel
theorem dX14_same_71 : decode cX14_same 71 = .ok (.getfield 88, 3) := by decide +kernel
theorem dX14_same_74 : decode cX14_same 74 = .ok (.getfield 529, 3) := by decide +kernel
theorem dX14_same_77 : decode cX14_same 77 = .ok (.iload_n 2, 1) := by decide +kernel
theorem dX14_same_78 : decode cX14_same 78 = .ok (.aload_n 0, 1) := by decide +kernel
theorem dX14_same_79 : decode cX14_same 79 = .ok (.getfield 78, 3) := by decide +kernel
theorem dX14_same_82 : decode cX14_same 82 = .ok (.iload_n 2, 1) := by decide +kernel
theorem dX14_same_83 : decode cX14_same 83 = .ok (.iaload, 1) := by decide +kernel
theorem dX14_same_84 : decode cX14_same 84 = .ok (.iastore, 1) := by decide +kernel
theorem dX14_same_85 : decode cX14_same 85 = .ok (.iinc 2 1, 3) := by decide +kernel
theorem dX14_same_88 : decode cX14_same 88 = .ok (.goto (-26), 3) := by decide +kernel
theorem dX14_same_91 : decode cX14_same 91 = .ok (.aload_n 0, 1) := by decide +kernel
theorem dX14_same_92 : decode cX14_same 92 = .ok (.getfield 88, 3) := by decide +kernel
theorem dX14_same_95 : decode cX14_same 95 = .ok (.invokestatic 534, 3) := by decide +kernel
theorem dX14_same_98 : decode cX14_same 98 = .ok (.iconst 0, 1) := by decide +kernel
theorem dX14_same_99 : decode cX14_same 99 = .ok (.istore_n 2, 1) := by decide +kernel
theorem dX14_same_100 : decode cX14_same 100 = .ok (.iload_n 2, 1) := by decide +kernel
theorem dX14_same_101 : decode cX14_same 101 = .ok (.aload_n 0, 1) := by decide +kernel
theorem dX14_same_102 : decode cX14_same 102 = .ok (.getfield 84, 3) := by decide +kernel
theorem dX14_same_105 : decode cX14_same 105 = .ok (.getfield 587, 3) := by decide +kernel
theorem dX14_same_108 : decode cX14_same 108 = .ok (.if_icmp .ge 36, 3) := by decide +kernel
theorem dX14_same_111 : decode cX14_same 111 = .ok (.iload_n 2, 1) := by decide +kernel
theorem dX14_same_112 : decode cX14_same 112 = .ok (.aload_n 0, 1) := by decide +kernel
theorem dX14_same_113 : decode cX14_same 113 = .ok (.getfield 88, 3) := by decide +kernel
theorem dX14_same_116 : decode cX14_same 116 = .ok (.getfield 587, 3) := by decide +kernel
theorem dX14_same_119 : decode cX14_same 119 = .ok (.if_icmp .ge 25, 3) := by decide +kernel
theorem dX14_same_122 : decode cX14_same 122 = .ok (.aload_n 0, 1) := by decide +kernel
theorem dX14_same_123 : decode cX14_same 123 = .ok (.getfield 84, 3) := by decide +kernel
theorem dX14_same_126 : decode cX14_same 126 = .ok (.iload_n 2, 1) := by decide +kernel
theorem dX14_same_127 : decode cX14_same 127 = .ok (.aload_n 0, 1) := by decide +kernel
theorem dX14_same_128 : decode cX14_same 128 = .ok (.getfield 88, 3) := by decide +kernel
theorem dX14_same_131 : decode cX14_same 131 = .ok (.iload_n 2, 1) := by decide +kernel
theorem dX14_same_132 : decode cX14_same 132 = .ok (.invokestatic 590, 3) := by decide +kernel
theorem dX14_same_135 : decode cX14_same 135 = .ok (.ifCond .eq 9, 3) := by decide +kernel
theorem dX14_same_138 : decode cX14_same 138 = .ok (.iinc 2 1, 3) := by decide +kernel
theorem dX14_same_141 : decode cX14_same 141 = .ok (.goto (-41), 3) := by decide +kernel
theorem dX14_same_144 : decode cX14_same 144 = .ok (.iload_n 2, 1) := by decide +kernel
theorem dX14_same_145 : decode cX14_same 145 = .ok (.ireturn, 1) := by decide +kernel
end
section
theorem dX14_change_0 : decode cX14_change 0 = .ok (.aload_n 0, 1) := by decide +kernel
theorem dX14_change_1 : decode cX14_change 1 = .ok (.iload_n 1, 1) := by decide +kernel
theorem dX14_change_2 : decode cX14_change 2 = .ok (.ldc_w 514, 3) := by decide +kernel
theorem dX14_change_5 : decode cX14_change 5 = .ok (.invokevirtual 430, 3) := by decide +kernel
theorem dX14_change_8 : decode cX14_change 8 = .ok (.istore_n 2, 1) := by decide +kernel
theorem dX14_change_9 : decode cX14_change 9 = .ok (.aload_n 0, 1) := by decide +kernel
theorem dX14_change_10 : decode cX14_change 10 = .ok (.iload_n 2, 1) := by decide +kernel
theorem dX14_change_11 : decode cX14_change 11 = .ok (.ldc_w 517, 3) := by decide +kernel
theorem dX14_change_14 : decode cX14_change 14 = .ok (.invokevirtual 430, 3) := by decide +kernel
theorem dX14_change_17 : decode cX14_change 17 = .ok (.istore_n 3, 1) := by decide +kernel
theorem dX14_change_18 : decode cX14_change 18 = .ok (.aload_n 0, 1) := by decide +kernel
theorem dX14_change_19 : decode cX14_change 19 = .ok (.iload_n 1, 1) := by decide +kernel
theorem dX14_change_20 : decode cX14_change 20 = .ok (.ldc_w 569, 3) := by decide +kernel
theorem dX14_change_23 : decode cX14_change 23 = .ok (.invokevirtual 430, 3) := by decide +kernel
theorem dX14_change_26 : decode cX14_change 26 = .ok (.istore 4, 2) := by decide +kernel
theorem dX14_change_28 : decode cX14_change 28 = .ok (.aload_n 0, 1) := by decide +kernel
theorem dX14_change_29 : decode cX14_change 29 = .ok (.aload_n 0, 1) := by decide +kernel
theorem dX14_change_30 : decode cX14_change 30 = .ok (.iload_n 2, 1) := by decide +kernel
theorem dX14_change_31 : decode cX14_change 31 = .ok (.ldc_w 516, 3) := by decide +kernel
theorem dX14_change_34 : decode cX14_change 34 = .ok (.invokevirtual 430, 3) := by decide +kernel
theorem dX14_change_37 : decode cX14_change 37 = .ok (.invokevirtual 520, 3) := by decide +kernel
theorem dX14_change_40 : decode cX14_change 40 = .ok (.astore 5, 2) := by decide +kernel
theorem dX14_change_42 : decode cX14_change 42 = .ok (.aload 5, 2) := by decide +kernel
theorem dX14_change_44 : decode cX14_change 44 = .ok (.ifnull 41, 3) := by decide +kernel
theorem dX14_change_47 : decode cX14_change 47 = .ok (.aload_n 0, 1) := by decide +kernel
theorem dX14_change_48 : decode cX14_change 48 = .ok (.iload_n 3, 1) := by decide +kernel
theorem dX14_change_49 : decode cX14_change 49 = .ok (.invokevirtual 371, 3) := by decide +kernel
theorem dX14_change_52 : decode cX14_change 52 = .ok (.ifCond .eq 33, 3) := by decide +kernel
theorem dX14_change_55 : decode cX14_change 55 = .ok (.iload 4, 2) := by decide +kernel
theorem dX14_change_57 : decode cX14_change 57 = .ok (.ifCond .lt 28, 3) := by decide +kernel
theorem dX14_change_60 : decode cX14_change 60 = .ok (.aload_n 0, 1) := by decide +kernel
theorem dX14_change_61 : decode cX14_change 61 = .ok (.getfield 37, 3) := by decide +kernel
theorem dX14_change_64 : decode cX14_change 64 = .ok (.iload 4, 2) := by decide +kernel
theorem dX14_change_66 : decode cX14_change 66 = .ok (.iaload, 1) := by decide +kernel
theorem dX14_change_67 : decode cX14_change 67 = .ok (.iconst 5, 1) := by decide +kernel
theorem dX14_change_68 : decode cX14_change 68 = .ok (.if_icmp .ne 17, 3) := by decide +kernel
theorem dX14_change_71 : decode cX14_change 71 = .ok (.aload_n 0, 1) := by decide +kernel
theorem dX14_change_72 : decode cX14_change 72 = .ok (.getfield 62, 3) := by decide +kernel
theorem dX14_change_75 : decode cX14_change 75 = .ok (.iload_n 3, 1) := by decide +kernel
theorem dX14_change_76 : decode cX14_change 76 = .ok (.iaload, 1) := by decide +kernel
theorem dX14_change_77 : decode cX14_change 77 = .ok (.aload 5, 2) := by decide +kernel
theorem dX14_change_79 : decode cX14_change 79 = .ok (.getfield 524, 3) := by decide +kernel
theorem dX14_change_82 : decode cX14_change 82 = .ok (.if_icmp .gt 4, 3) := by decide +kernel
theorem dX14_change_85 : decode cX14_change 85 = .ok (.return_, 1) := by decide +kernel
theorem dX14_change_86 : decode cX14_change 86 = .ok (.iconst 0, 1) := by decide +kernel
theorem dX14_change_87 : decode cX14_change 87 = .ok (.istore 6, 2) := by decide +kernel
theorem dX14_change_89 : decode cX14_change 89 = .ok (.iconst 1, 1) := by decide +kernel
theorem dX14_change_90 : decode cX14_change 90 = .ok (.istore 7, 2) := by decide +kernel
theorem dX14_change_92 : decode cX14_change 92 = .ok (.aload_n 0, 1) := by decide +kernel
theorem dX14_change_93 : decode cX14_change 93 = .ok (.getfield 40, 3) := by decide +kernel
theorem dX14_change_96 : decode cX14_change 96 = .ok (.iload 4, 2) := by decide +kernel
theorem dX14_change_98 : decode cX14_change 98 = .ok (.iaload, 1) := by decide +kernel
theorem dX14_change_99 : decode cX14_change 99 = .ok (.istore 8, 2) := by decide +kernel
theorem dX14_change_101 : decode cX14_change 101 = .ok (.iload 8, 2) := by decide +kernel
theorem dX14_change_103 : decode cX14_change 103 = .ok (.ifCond .lt 39, 3) := by decide +kernel
theorem dX14_change_106 : decode cX14_change 106 = .ok (.iinc 6 1, 3) := by decide +kernel
theorem dX14_change_109 : decode cX14_change 109 = .ok (.iload 7, 2) := by decide +kernel
theorem dX14_change_111 : decode cX14_change 111 = .ok (.ifCond .eq 16, 3) := by decide +kernel
theorem dX14_change_114 : decode cX14_change 114 = .ok (.aload_n 0, 1) := by decide +kernel
theorem dX14_change_115 : decode cX14_change 115 = .ok (.iload 8, 2) := by decide +kernel
theorem dX14_change_117 : decode cX14_change 117 = .ok (.invokevirtual 571, 3) := by decide +kernel
theorem dX14_change_120 : decode cX14_change 120 = .ok (.ifCond .eq 7, 3) := by decide +kernel
theorem dX14_change_123 : decode cX14_change 123 = .ok (.iconst 1, 1) := by decide +kernel
theorem dX14_change_124 : decode cX14_change 124 = .ok (.goto 4, 3) := by decide +kernel
theorem dX14_change_127 : decode cX14_change 127 = .ok (.iconst 0, 1) := by decide +kernel
theorem dX14_change_128 : decode cX14_change 128 = .ok (.istore 7, 2) := by decide +kernel
theorem dX14_change_130 : decode cX14_change 130 = .ok (.aload_n 0, 1) := by decide +kernel
theorem dX14_change_131 : decode cX14_change 131 = .ok (.getfield 43, 3) := by decide +kernel
theorem dX14_change_134 : decode cX14_change 134 = .ok (.iload 8, 2) := by decide +kernel
theorem dX14_change_136 : decode cX14_change 136 = .ok (.iaload, 1) := by decide +kernel
theorem dX14_change_137 : decode cX14_change 137 = .ok (.istore 8, 2) := by decide +kernel
theorem dX14_change_139 : decode cX14_change 139 = .ok (.goto (-38), 3) := by decide +kernel
theorem dX14_change_142 : decode cX14_change 142 = .ok (.iload 7, 2) := by decide +kernel
theorem dX14_change_144 : decode cX14_change 144 = .ok (.ifCond .eq 14, 3) := by decide +kernel
theorem dX14_change_147 : decode cX14_change 147 = .ok (.iload 6, 2) := by decide +kernel
theorem dX14_change_149 : decode cX14_change 149 = .ok (.iconst 1, 1) := by decide +kernel
theorem dX14_change_150 : decode cX14_change 150 = .ok (.bipush 8, 2) := by decide +kernel
theorem dX14_change_152 : decode cX14_change 152 = .ok (.invokestatic 181, 3) := by decide +kernel
theorem dX14_change_155 : decode cX14_change 155 = .ok (.ifCond .ne 4, 3) := by decide +kernel
theorem dX14_change_158 : decode cX14_change 158 = .ok (.return_, 1) := by decide +kernel
theorem dX14_change_159 : decode cX14_change 159 = .ok (.aload_n 0, 1) := by decide +kernel
theorem dX14_change_160 : decode cX14_change 160 = .ok (.aload 5, 2) := by decide +kernel
theorem dX14_change_162 : decode cX14_change 162 = .ok (.getfield 526, 3) := by decide +kernel
theorem dX14_change_165 : decode cX14_change 165 = .ok (.putfield 550, 3) := by decide +kernel
theorem dX14_change_168 : decode cX14_change 168 = .ok (.iconst 0, 1) := by decide +kernel
theorem dX14_change_169 : decode cX14_change 169 = .ok (.istore 8, 2) := by decide +kernel
theorem dX14_change_171 : decode cX14_change 171 = .ok (.iload 8, 2) := by decide +kernel
theorem dX14_change_173 : decode cX14_change 173 = .ok (.aload 5, 2) := by decide +kernel
theorem dX14_change_175 : decode cX14_change 175 = .ok (.getfield 526, 3) := by decide +kernel
theorem dX14_change_178 : decode cX14_change 178 = .ok (.if_icmp .ge 24, 3) := by decide +kernel
theorem dX14_change_181 : decode cX14_change 181 = .ok (.aload_n 0, 1) := by decide +kernel
theorem dX14_change_182 : decode cX14_change 182 = .ok (.getfield 78, 3) := by decide +kernel
theorem dX14_change_185 : decode cX14_change 185 = .ok (.iload 8, 2) := by decide +kernel
theorem dX14_change_187 : decode cX14_change 187 = .ok (.aload 5, 2) := by decide +kernel
theorem dX14_change_189 : decode cX14_change 189 = .ok (.getfield 529, 3) := by decide +kernel
theorem dX14_change_192 : decode cX14_change 192 = .ok (.iload 8, 2) := by decide +kernel
theorem dX14_change_194 : decode cX14_change 194 = .ok (.iaload, 1) := by decide +kernel
theorem dX14_change_195 : decode cX14_change 195 = .ok (.iastore, 1) := by decide +kernel
theorem dX14_change_196 : decode cX14_change 196 = .ok (.iinc 8 1, 3) := by decide +kernel
theorem dX14_change_199 : decode cX14_change 199 = .ok (.goto (-28), 3) := by decide +kernel
theorem dX14_change_202 : decode cX14_change 202 = .ok (.aload_n 0, 1) := by decide +kernel
theorem dX14_change_203 : decode cX14_change 203 = .ok (.getfield 40, 3) := by decide +kernel
theorem dX14_change_206 : decode cX14_change 206 = .ok (.iload 4, 2) := by decide +kernel
theorem dX14_change_208 : decode cX14_change 208 = .ok (.iaload, 1) := by decide +kernel
theorem dX14_change_209 : decode cX14_change 209 = .ok (.istore 8, 2) := by decide +kernel
theorem dX14_change_211 : decode cX14_change 211 = .ok (.iload 8, 2) := by decide +kernel
theorem dX14_change_213 : decode cX14_change 213 = .ok (.ifCond .lt 25, 3) := by decide +kernel
theorem dX14_change_216 : decode cX14_change 216 = .ok (.aload_n 0, 1) := by decide +kernel
theorem dX14_change_217 : decode cX14_change 217 = .ok (.iload 8, 2) := by decide +kernel
theorem dX14_change_219 : decode cX14_change 219 = .ok (.invokevirtual 574, 3) := by decide +kernel
theorem dX14_change_222 : decode cX14_change 222 = .ok (.ifCond .ne 4, 3) := by decide +kernel
theorem dX14_change_225 : decode cX14_change 225 = .ok (.return_, 1) := by decide +kernel
theorem dX14_change_226 : decode cX14_change 226 = .ok (.aload_n 0, 1) := by decide +kernel
theorem dX14_change_227 : decode cX14_change 227 = .ok (.getfield 43, 3) := by decide +kernel
theorem dX14_change_230 : decode cX14_change 230 = .ok (.iload 8, 2) := by decide +kernel
theorem dX14_change_232 : decode cX14_change 232 = .ok (.iaload, 1) := by decide +kernel
theorem dX14_change_233 : decode cX14_change 233 = .ok (.istore 8, 2) := by decide +kernel
theorem dX14_change_235 : decode cX14_change 235 = .ok (.goto (-24), 3) := by decide +kernel
theorem dX14_change_238 : decode cX14_change 238 = .ok (.aload 5, 2) := by decide +kernel
theorem dX14_change_240 : decode cX14_change 240 = .ok (.aload_n 0, 1) := by decide +kernel
theorem dX14_change_241 : decode cX14_change 241 = .ok (.getfield 62, 3) := by decide +kernel
theorem dX14_change_244 : decode cX14_change 244 = .ok (.iload_n 3, 1) := by decide +kernel
theorem dX14_change_245 : decode cX14_change 245 = .ok (.iaload, 1) := by decide +kernel
theorem dX14_change_246 : decode cX14_change 246 = .ok (.putfield 524, 3) := by decide +kernel
theorem dX14_change_249 : decode cX14_change 249 = .ok (.aload_n 0, 1) := by decide +kernel
theorem dX14_change_250 : decode cX14_change 250 = .ok (.aload 5, 2) := by decide +kernel
theorem dX14_change_252 : decode cX14_change 252 = .ok (.invokevirtual 577, 3) := by decide +kernel
theorem dX14_change_255 : decode cX14_change 255 = .ok (.aload_n 0, 1) := by decide +kernel
theorem dX14_change_256 : decode cX14_change 256 = .ok (.aload 5, 2) := by decide +kernel
theorem dX14_change_258 : decode cX14_change 258 = .ok (.invokevirtual 579, 3) := by decide +kernel
theorem dX14_change_261 : decode cX14_change 261 = .ok (.istore 8, 2) := by decide +kernel
theorem dX14_change_263 : decode cX14_change 263 = .ok (.aload 5, 2) := by decide +kernel
theorem dX14_change_265 : decode cX14_change 265 = .ok (.aload_n 0, 1) := by decide +kernel
theorem dX14_change_266 : decode cX14_change 266 = .ok (.getfield 550, 3) := by decide +kernel
theorem dX14_change_269 : decode cX14_change 269 = .ok (.putfield 526, 3) := by decide +kernel
theorem dX14_change_272 : decode cX14_change 272 = .ok (.iconst 0, 1) := by decide +kernel
theorem dX14_change_273 : decode cX14_change 273 = .ok (.istore 9, 2) := by decide +kernel
theorem dX14_change_275 : decode cX14_change 275 = .ok (.iload 9, 2) := by decide +kernel
theorem dX14_change_277 : decode cX14_change 277 = .ok (.aload 5, 2) := by decide +kernel
theorem dX14_change_279 : decode cX14_change 279 = .ok (.getfield 526, 3) := by decide +kernel
theorem dX14_change_282 : decode cX14_change 282 = .ok (.if_icmp .ge 24, 3) := by decide +kernel
theorem dX14_change_285 : decode cX14_change 285 = .ok (.aload 5, 2) := by decide +kernel
theorem dX14_change_287 : decode cX14_change 287 = .ok (.getfield 529, 3) := by decide +kernel
theorem dX14_change_290 : decode cX14_change 290 = .ok (.iload 9, 2) := by decide +kernel
theorem dX14_change_292 : decode cX14_change 292 = .ok (.aload_n 0, 1) := by decide +kernel
theorem dX14_change_293 : decode cX14_change 293 = .ok (.getfield 78, 3) := by decide +kernel
theorem dX14_change_296 : decode cX14_change 296 = .ok (.iload 9, 2) := by decide +kernel
theorem dX14_change_298 : decode cX14_change 298 = .ok (.iaload, 1) := by decide +kernel
theorem dX14_change_299 : decode cX14_change 299 = .ok (.iastore, 1) := by decide +kernel
theorem dX14_change_300 : decode cX14_change 300 = .ok (.iinc 9 1, 3) := by decide +kernel
theorem dX14_change_303 : decode cX14_change 303 = .ok (.goto (-28), 3) := by decide +kernel
theorem dX14_change_306 : decode cX14_change 306 = .ok (.aload_n 0, 1) := by decide +kernel
theorem dX14_change_307 : decode cX14_change 307 = .ok (.aload 5, 2) := by decide +kernel
theorem dX14_change_309 : decode cX14_change 309 = .ok (.iload 8, 2) := by decide +kernel
theorem dX14_change_311 : decode cX14_change 311 = .ok (.invokevirtual 583, 3) := by decide +kernel
theorem dX14_change_314 : decode cX14_change 314 = .ok (.aload_n 0, 1) := by decide +kernel
theorem dX14_change_315 : decode cX14_change 315 = .ok (.aload 5, 2) := by decide +kernel
theorem dX14_change_317 : decode cX14_change 317 = .ok (.invokevirtual 538, 3) := by decide +kernel
theorem dX14_change_320 : decode cX14_change 320 = .ok (.return_, 1) := by decide +kernel
end
section
-- new objects: raw while they are made, typed when they are whole
theorem jKe.st {G : jT} {H0 H H1 : Heap} {G0 : jT} {a : Nat} (h : jKe G0 G H0 H) (ha : H0.size ≤ a) (hr : ∀ q, q ≠ a → H1[q]? = H[q]?) : jKe G0 G H0 H1 := ⟨fun q hq => (hr q (by omega)).trans (h.1 q hq), h.2⟩
section J20
variable {p : Program} {l : Launch} {e : Env} {R : Room} {s : State} {m : MethodId} {args : Array Value} {below : List Frame} {meth : Method} {c : Code} {H : Heap} {locs : List Loc} {cells slots : Nat} {Q : State → Prop}
variable {cc : ByteArray} {pc : Nat} {ls : Array Slot} {rest : List Value} {dC : Nat → ClassId} {dI : Nat → Nat → Nat} {ca : Nat → ClassId} {B : jF} {base : Nat} {G0 G : jT} {E : List (Nat × Nat)} {H0 : Heap} {zc zs : Nat} {L : List jPin} {M : List jCt} {I : List jIv} {a k n i index N : Nat} {tys : List (ClassId × FieldType)} {own C : String} {T : u_T} {fs : List Value}
end J20
-- all growing Bytes hold no more than they have room for
end
section
-- what the kernel's walks need: raw arrays of ints, arrays whose last element is null, states, new goals
section J30
variable {p : Program} {l : Launch} {e : Env} {R : Room} {s : State} {m : MethodId} {args : Array Value} {below : List Frame} {meth : Method} {c : Code} {H : Heap} {locs : List Loc} {cells slots : Nat} {Q : State → Prop}
variable {cc : ByteArray} {pc : Nat} {ls : Array Slot} {rest : List Value} {dC : Nat → ClassId} {dI : Nat → Nat → Nat} {ca : Nat → ClassId} {B : jF} {base : Nat} {G0 G : jT} {E : List (Nat × Nat)} {H0 : Heap} {zc zs : Nat} {L : List jPin} {M : List jCt} {I : List jIv} {a a0 k k0 n n0 index : Nat} {tys : List (ClassId × FieldType)} {own C : String} {cA : ClassId}
end J30
theorem jFrc.full {f : Nat → Option Nat} {c c1 : Int} (h : jFrc f c) (hc : 6 ≤ c) : jFrc f c1 := fun i h6 _ => h i h6 (by omega)
end
section
-- all cells but these stay
theorem jKx.st {r : Nat} {G : jT} {H0 H H1 : Heap} {G0 : jT} {a : Nat} (h : jKx r G0 G H0 H) (ha : H0.size ≤ a) (hr : ∀ q, q ≠ a → H1[q]? = H[q]?) : jKx r G0 G H0 H1 := ⟨fun q hq hn => (hr q (by omega)).trans (h.1 q hq hn), h.2⟩
section J31
variable {p : Program} {l : Launch} {e : Env} {R : Room} {s : State} {m : MethodId} {args : Array Value} {below : List Frame} {meth : Method} {c : Code} {H : Heap} {locs : List Loc} {cells slots : Nat} {Q : State → Prop}
variable {cc : ByteArray} {pc : Nat} {ls : Array Slot} {rest : List Value} {dC : Nat → ClassId} {dI : Nat → Nat → Nat} {ca : Nat → ClassId} {B : jF} {base : Nat} {G0 G : jT} {E : List (Nat × Nat)} {H0 : Heap} {zc zs : Nat} {L : List jPin} {M : List jCt} {I : List jIv} {a k n : Nat} {tys : List (ClassId × FieldType)} {cA : ClassId}
end J31
end
section
-- what is known of all lists (o: the one that is open); k: as many there are
section J33
variable {dC : Nat → ClassId} {dI : Nat → Nat → Nat} {ca : Nat → ClassId} {G G1 : jT} {H H1 : Heap} {a c k r x m n : Nat} {o : Option Nat} {ks : List Nat} {w wn : jWl9}
theorem jLs.less (h : jLs dC dI ca G k none w H) (r : Nat) : jLs dC dI ca G k (some r) w H := ⟨h.1, h.2.1, fun a c ha _ => h.2.2 a c ha (fun q => by cases q)⟩
theorem jLo.tell (h : jLo dC dI ca G w a c H) (hc : c ≠ 1) : jLo dC dI ca G wn a c H := by
  obtain ⟨z, x, h1, h2, h3, h4⟩ := h
  refine ⟨z, x, h1, h2, h3, ?_⟩
  rcases h4 with ⟨g1, g2, -⟩ | ⟨m, f, g1, g2, g3, g4, g5, -⟩
  · exact Or.inl ⟨g1, g2, fun q => absurd q hc⟩
  · exact Or.inr ⟨m, f, g1, g2, g3, g4, g5, fun q => absurd q hc⟩
theorem jLs.full (h : jLs dC dI ca G k (some r) w H) (hr : G r = some (1, c)) (hl : jLo dC dI ca G wn r c H) (hw : c ≠ 1 → wn = w) : jLs dC dI ca G k none wn H :=
  ⟨h.1, h.2.1, fun a c' ha _ => by
    by_cases e : a = r
    · subst e
      have e1 := Option.some.inj (ha.symm.trans hr)
      cases e1
      exact hl
    · have h9 := h.2.2 a c' ha (fun q => e (Option.some.inj q).symm)
      by_cases e1 : c = 1
      · refine h9.tell (fun q => e ?_)
        subst q e1
        exact h.1 a r 1 ha hr
      · rw [hw e1]; exact h9⟩
/-- a field of the open list is written -/
theorem jLs.fld (h : jLs dC dI ca G k (some r) w H) (hr : G r = some (1, c)) (hq : ∀ q : Nat, q ≠ r → H1[q]? = H[q]?) : jLs dC dI ca G k (some r) w H1 :=
  ⟨h.1, h.2.1, fun a c' ha hn => (h.2.2 a c' ha hn).cells (hq a (fun e => hn (by rw [e]))) (fun x m hx => hq x (fun e => by
    subst e
    have e1 := Option.some.inj (hx.symm.trans hr)
    have e2 := congrArg Prod.fst e1
    simp at e2
    omega))⟩
end J33
def jRmv {α : Type} (f : Nat → α) (d : Nat) : Nat → α := fun i => if i < d then f i else f (i + 1)
end
section
-- the sentences of a document of the class: in order, none empty
theorem jSn.nx {e1 : Nat → Int32} {s y n1 t : Int} (he : jSo e1 s = y) (hn : n1 = s + 1) (ht : y ≤ t) : n1 = 0 ∨ jSo e1 (n1 - 1) ≤ t := by
  subst hn
  rw [show s + 1 - 1 = s by omega, he]
  exact Or.inr ht
end
section
-- the documents of the class: sentences in order, and what is still to be checked of the open ones
theorem jSmm.less {G : jT} {W : Nat → Nat} {a : Nat} (ha : G a = some (3, 0)) : ∀ N, jSmm G (some a) W N + (if a < N then W a else 0) = jSmm G none W N
  | 0 => rfl
  | N + 1 => by
    have h := jSmm.less (W := W) ha N
    show jSmm G (some a) W N + (if G N = some (3, 0) ∧ some a ≠ some N then W N else 0) + _ = jSmm G none W N + (if G N = some (3, 0) ∧ none ≠ some N then W N else 0)
    by_cases e : a = N
    · subst e
      rw [if_neg (by omega : ¬ a < a)] at h
      rw [if_neg (fun q => q.2 rfl), if_pos (by omega : a < a + 1), if_pos ⟨ha, fun q => by cases q⟩]
      omega
    · have e2 : (if G N = some (3, 0) ∧ some a ≠ some N then W N else 0) = (if G N = some (3, 0) ∧ none ≠ some N then W N else 0) := by
        by_cases q : G N = some (3, 0)
        · rw [if_pos ⟨q, fun z => e (Option.some.inj z)⟩, if_pos ⟨q, fun z => by cases z⟩]
        · rw [if_neg (fun z => q z.1), if_neg (fun z => q z.1)]
      rw [e2]
      by_cases q : a < N
      · rw [if_pos q] at h
        rw [if_pos (by omega : a < N + 1)]
        omega
      · rw [if_neg q] at h
        rw [if_neg (by omega : ¬ a < N + 1)]
        omega
theorem jSmm.ne {G : jT} {W : Nat → Nat} {a : Nat} (ha : G a ≠ some (3, 0)) : ∀ N, jSmm G (some a) W N = jSmm G none W N
  | 0 => rfl
  | N + 1 => by
    have h := jSmm.ne (W := W) ha N
    show jSmm G (some a) W N + (if G N = some (3, 0) ∧ some a ≠ some N then W N else 0) = jSmm G none W N + (if G N = some (3, 0) ∧ none ≠ some N then W N else 0)
    rw [h]
    by_cases q : G N = some (3, 0)
    · rw [if_pos ⟨q, fun z => ha (by rw [Option.some.inj z]; exact q)⟩, if_pos ⟨q, fun z => by cases z⟩]
    · rw [if_neg (fun z => q z.1), if_neg (fun z => q z.1)]
section J41
variable {dC : Nat → ClassId} {dI : Nat → Nat → Nat} {ca : Nat → ClassId} {G G1 : jT} {H H1 : Heap} {x : Option Nat} {ph : Nat}
theorem jD3.up {a yb ye : Nat} {fb fe : Nat → Int32} {ps pk : Int32} {vc : Value} (h : jD3 dC dI ca G a yb ye fb fe ps pk vc H) (hle : jLe G G1) : jD3 dC dI ca G1 a yb ye fb fe ps pk vc H := by
  obtain ⟨g3, g4, g5⟩ := h
  refine ⟨fun q hq => ?_, fun q hq => ?_, g5⟩
  · obtain ⟨⟨n, q1⟩, q2⟩ := g3 q hq
    exact ⟨⟨n, hle _ _ q1⟩, q2⟩
  · obtain ⟨q1, q2⟩ := g4 q hq
    exact ⟨hle _ _ q1, q2⟩
/-- a document is opened: what is known of it, and what the others want -/
theorem jDcc.opn {a n : Nat} (h : jDcc dC dI ca G none ph H) (ha : G a = some (3, n)) : ∃ (yb ye w ph1 : Nat) (fb fe : Nat → Int32) (ps pk : Int32) (vc : Value), G yb = some (171, 40) ∧ G ye = some (172, 40) ∧ jf (dC, dI) 3 a 5 (.ref yb) H ∧ jf (dC, dI) 3 a 6 (.ref ye) H ∧ jD3 dC dI ca G a yb ye fb fe ps pk vc H ∧ (n = 0 → jPo fe ps.toInt pk.toInt vc w) ∧ jDcc dC dI ca G (some a) ph1 H ∧ ph1 ≤ ph ∧ (n = 0 → ph1 + w ≤ ph) := by
  obtain ⟨Yb, Ye, W, h1, h2, h3, h4, h5⟩ := h
  obtain ⟨g1, g2, g3, g4⟩ := h1 a n ha
  obtain ⟨fb, fe, ps, pk, vc, g, gp⟩ := h4 a n ha (fun q => by cases q)
  by_cases e : n = 0
  · subst e
    have hs : ∀ N, jSmm G (some a) W N ≤ ph - W a := fun N => by
      have m1 := jSmm.mono (G := G) (x := some a) (W := W) (N := N) (N + a + 1) (by omega)
      have m2 := jSmm.less (W := W) ha (N + a + 1)
      rw [if_pos (by omega : a < N + a + 1)] at m2
      have m3 := h5 (N + a + 1)
      omega
    have m0 := jSmm.less (W := W) ha (a + 1)
    rw [if_pos (by omega : a < a + 1)] at m0
    have m3 := h5 (a + 1)
    exact ⟨Yb a, Ye a, W a, ph - W a, fb, fe, ps, pk, vc, g3, g4, g1, g2, g, gp, ⟨Yb, Ye, W, h1, h2, h3, fun b m hb _ => h4 b m hb (fun q => by cases q), hs⟩, by omega, fun _ => by omega⟩
  · refine ⟨Yb a, Ye a, W a, ph, fb, fe, ps, pk, vc, g3, g4, g1, g2, g, gp, ⟨Yb, Ye, W, h1, h2, h3, fun b m hb _ => h4 b m hb (fun q => by cases q), fun N => ?_⟩, Nat.le_refl _, fun q => absurd q e⟩
    rw [jSmm.ne (fun q => e (by rw [ha] at q; exact congrArg Prod.snd (Option.some.inj q))) N]
    exact h5 N
/-- it is whole again -/
theorem jDcc.full {a n yb ye w : Nat} {fb fe : Nat → Int32} {ps pk : Int32} {vc : Value} (h : jDcc dC dI ca G (some a) ph H) (ha : G a = some (3, n)) (p5 : jf (dC, dI) 3 a 5 (.ref yb) H) (p6 : jf (dC, dI) 3 a 6 (.ref ye) H) (g : jD3 dC dI ca G a yb ye fb fe ps pk vc H) (gp : n = 0 → jPo fe ps.toInt pk.toInt vc w) {ph1 : Nat} (hp : ph ≤ ph1) (hw : n = 0 → ph + w ≤ ph1) : jDcc dC dI ca G none ph1 H := by
  obtain ⟨Yb, Ye, W, h1, h2, h3, h4, h5⟩ := h
  have e1 : Yb a = yb := by have := jf.uniq (h1 a n ha).1 p5; cases this; rfl
  have e2 : Ye a = ye := by have := jf.uniq (h1 a n ha).2.1 p6; cases this; rfl
  refine ⟨Yb, Ye, fun b => if b = a then w else W b, h1, h2, h3, fun b m hb _ => ?_, fun N => ?_⟩
  · by_cases e : b = a
    · subst e
      rw [e1, e2]
      have em : m = n := by
        rw [ha] at hb
        exact (congrArg Prod.snd (Option.some.inj hb)).symm
      refine ⟨fb, fe, ps, pk, vc, g, fun q => ?_⟩
      show jPo fe ps.toInt pk.toInt vc (if b = b then w else W b)
      rw [if_pos rfl]
      exact gp (em ▸ q)
    · obtain ⟨fb1, fe1, ps1, pk1, vc1, g1, gp1⟩ := h4 b m hb (fun q => e (Option.some.inj q).symm)
      refine ⟨fb1, fe1, ps1, pk1, vc1, g1, fun q => ?_⟩
      show jPo fe1 ps1.toInt pk1.toInt vc1 (if b = a then w else W b)
      rw [if_neg e]
      exact gp1 q
  · have c1 : ∀ M, jSmm G (some a) (fun b => if b = a then w else W b) M = jSmm G (some a) W M := jSmm.cg (fun _ => Iff.rfl) (fun M hM => if_neg (fun q => hM (by rw [q])))
    by_cases e : n = 0
    · subst e
      have m := jSmm.less (W := fun b => if b = a then w else W b) ha N
      rw [c1 N] at m
      have m5 := h5 N
      have m6 := hw rfl
      have m7 : (if a < N then (if a = a then w else W a) else 0) ≤ w := by
        by_cases q : a < N
        · rw [if_pos q, if_pos rfl]; exact Nat.le_refl _
        · rw [if_neg q]; omega
      omega
    · rw [← jSmm.ne (fun q => e (by rw [ha] at q; exact congrArg Prod.snd (Option.some.inj q))) N, c1 N]
      exact Nat.le_trans (h5 N) hp
/-- a field of the open document is written -/
theorem jDcc.fld {a n yb ye : Nat} (h : jDcc dC dI ca G (some a) ph H) (ha : G a = some (3, n)) (hfr : ∀ p, p ≠ a → H1[p]? = H[p]?) (p5 : jf (dC, dI) 3 a 5 (.ref yb) H) (p6 : jf (dC, dI) 3 a 6 (.ref ye) H) (q5 : jf (dC, dI) 3 a 5 (.ref yb) H1) (q6 : jf (dC, dI) 3 a 6 (.ref ye) H1) : jDcc dC dI ca G (some a) ph H1 := by
  obtain ⟨Yb, Ye, W, h1, h2, h3, h4, h5⟩ := h
  have e1 : Yb a = yb := by have := jf.uniq (h1 a n ha).1 p5; cases this; rfl
  have e2 : Ye a = ye := by have := jf.uniq (h1 a n ha).2.1 p6; cases this; rfl
  refine ⟨Yb, Ye, W, fun b m hb => ?_, h2, h3, fun b m hb hx => ?_, h5⟩
  · obtain ⟨g1, g2, g3, g4⟩ := h1 b m hb
    by_cases e : b = a
    · subst e
      exact ⟨by rw [e1]; exact q5, by rw [e2]; exact q6, g3, g4⟩
    · exact ⟨g1.kept (hfr b e), g2.kept (hfr b e), g3, g4⟩
  · obtain ⟨g1, g2, g3, g4⟩ := h1 b m hb
    have e : b ≠ a := fun q => hx (by rw [q])
    obtain ⟨fb, fe, ps, pk, vc, g, gp⟩ := h4 b m hb hx
    refine ⟨fb, fe, ps, pk, vc, g.of (fun i v hi hf => hf.kept (hfr b e)) (hfr _ (fun q => ?_)) (hfr _ (fun q => ?_)), gp⟩
    · rw [q, ha] at g3
      have := congrArg Prod.fst (Option.some.inj g3)
      simp at this
    · rw [q, ha] at g4
      have := congrArg Prod.fst (Option.some.inj g4)
      simp at this
theorem jEd.nx {fb fe : Nat → Int32} {s u k : Int} (h : jSn fb fe s u) (h0 : 0 ≤ k) (h1 : k < s) : jEd fe k ≤ jSo fb k ∧ 0 ≤ jEd fe k ∧ jEd fe (k + 1) = jSo fe k ∧ jSo fb k < jSo fe k ∧ jSo fe k ≤ u ∧ 0 ≤ jSo fb k := by
  have g := h k h0 h1
  have e1 : jEd fe (k + 1) = jSo fe k := by
    unfold jEd
    rw [if_neg (by omega), show k + 1 - 1 = k by omega]
  unfold jEd at e1 ⊢
  by_cases q : k ≤ 0
  · rw [if_pos q]
    exact ⟨g.1, Int.le_refl _, e1, g.2.1, g.2.2.1, g.1⟩
  · rw [if_neg q]
    have g1 := h (k - 1) (by omega) (by omega)
    have g2 := g1.2.2.2 (by omega)
    rw [show k - 1 + 1 = k by omega] at g2
    exact ⟨g2, by omega, e1, g.2.1, g.2.2.1, g.1⟩
end J41
end
section
-- p11: bits; the tape on both sides; bytes read as UTF-8; the text that comes of them
theorem jDe.done {b : Int → Int} {n w i : Int} {g : Nat → Int32} (h : jDe b n g w i) (hi : n ≤ i) : w = (jTl b n).length ∧ jVtx g (jTl b n) := by
  obtain ⟨P, k, hk, hw, hx, hP⟩ := h
  rw [jUl_o _ hi, List.append_nil] at hP
  rw [← hP]; exact ⟨hw, hx⟩
section JP1
variable {p : Program} {l : Launch} {e : Env} {R : Room} {s : State} {m : MethodId} {args : Array Value} {below : List Frame} {meth : Method} {c : Code} {H : Heap} {locs : List Loc} {cells slots : Nat} {Q : State → Prop}
variable {cc : ByteArray} {pc : Nat} {ls : Array Slot} {rest : List Value} {D : va_G} {cl : List vw_C} {A : Nat → Prop} {a : Nat} {tys : List (ClassId × FieldType)}
end JP1
section JP2
variable {p : Program} {l : Launch} {e : Env} {R : Room} {s : State} {m : MethodId} {args : Array Value} {below : List Frame} {meth : Method} {c : Code} {H : Heap} {locs : List Loc} {cells slots : Nat} {Q : State → Prop}
variable {cc : ByteArray} {pc : Nat} {ls : Array Slot} {rest : List Value} {dC : Nat → ClassId} {dI : Nat → Nat → Nat} {ca : Nat → ClassId} {B : jF} {base : Nat} {G0 G : jT} {E : List (Nat × Nat)} {H0 : Heap} {zc zs : Nat} {L : List jPin} {M : List jCt} {I : List jIv} {a k n : Nat} {cA : ClassId} {tys : List (ClassId × FieldType)}
end JP2
end
section
-- p9: frames: X 0 fine or broken, 1 place, 2 told, 3 kept, 4 signs, 5 the name is like the wanted one, 6 digits, 7 value, 8 filled
/-- what a byte makes of the state (0: 1 is broken); whether a message is whole; its bytes -/
def jfB : Nat → Int := jfV 1 0 0 0 0 0 0 0 0
def jfW (X : Nat → Int) : (Nat → Int) × Int × Int := if X 1 = 6 ∧ X 2 ≤ X 8 then (jfV 0 0 (-1) 0 (X 4) (X 5) (X 6) (X 7) 0, 1, X 2) else (X, 0, 0)
def jfAc (X : Nat → Int) (c : Int) : (Nat → Int) × Int × Int := if X 1 = 6 then jfW (jfV 0 6 (X 2) (X 3 + 1) (X 4) (X 5) (X 6) (X 7) (X 8 + 1)) else if 200 ≤ X 3 ∨ jfHd X c 0 = 0 then (jfB, 0, 0) else jfW (jfV 0 (jfHd X c 1) (jfHd X c 2) (X 3 + 1) (jfHd X c 4) (jfHd X c 5) (jfHd X c 6) (jfHd X c 7) (X 8))
section
variable {x a b c d e f g h i u r p q ql qg : Int}
/-- the state behind a byte, as the class holds it: broken, or all its numbers -/
def jfQ (Y : Nat → Int) (qb a b c d e f g h : Int) : Prop := (qb = 1 ∧ Y = jfB) ∨ (qb = 0 ∧ Y = jfV 0 a b c d e f g h)
/-- a byte has come: r, whether a message is whole, of qn bytes; the state -/
def jfA (X : Nat → Int) (u r qn qb a b c d e f g h : Int) : Prop := ∃ (Y : Nat → Int) (z : Int), jfAc X u = (Y, r, z) ∧ jfQ Y qb a b c d e f g h ∧ (r = 1 → qn = z)
end
section JP3
variable {p : Program} {l : Launch} {e : Env} {R : Room} {s : State} {m : MethodId} {args : Array Value} {below : List Frame} {meth : Method} {c : Code} {H : Heap} {locs : List Loc} {cells slots : Nat} {Q : State → Prop}
variable {cc : ByteArray} {pc : Nat} {ls : Array Slot} {rest : List Value} {dC : Nat → ClassId} {dI : Nat → Nat → Nat} {ca : Nat → ClassId} {B : jF} {base : Nat} {G0 G : jT} {E : List (Nat × Nat)} {H0 : Heap} {zc zs : Nat} {L : List jPin} {M : List jCt} {I : List jIv} {a k n : Nat} {cA : ClassId} {tys : List (ClassId × FieldType)}
end JP3
section JP4
variable {p : Program} {l : Launch} {e : Env} {R : Room} {s : State} {m : MethodId} {args : Array Value} {below : List Frame} {meth : Method} {c : Code} {H : Heap} {locs : List Loc} {cells slots : Nat} {Q : State → Prop}
variable {cc : ByteArray} {pc : Nat} {ls : Array Slot} {rest : List Value} {dC : Nat → ClassId} {dI : Nat → Nat → Nat} {ca : Nat → ClassId} {B : jF} {base : Nat} {G0 G : jT} {E : List (Nat × Nat)} {H0 : Heap} {zc zs : Nat} {L : List jPin} {M : List jCt} {I : List jIv} {a k n : Nat} {cA : ClassId} {tys : List (ClassId × FieldType)}
variable {P : Nat → Int32 → Prop}
end JP4
end
section
-- p9: what the class's methods say of JSON
section
variable {T T1 : Nat → Int → Int} {v u v1 k f z : Int} {fk fi fz fn fa fs fu gk gi gz gn ga gs gu : Nat → Int32}
end
section
variable {X : Int × Int × Int × Int × (Nat → Int → Int)} {e d r a v u a0 v0 u0 : Int} {T : Nat → Int → Int} {fk fi fz fn fa fs fu : Nat → Int32}
end
/-- bytes are bytes -/
def jjFt (f : Nat → Int32) (n : Int) : Prop := ∀ j : Int, 0 ≤ j → j < n → -128 ≤ jSo f j ∧ jSo f j ≤ 127
section
variable {b : Int → Int} {e a v u r a1 v1 u1 z c : Int} {T T1 : Nat → Int → Int}
end
section
variable {b : Int → Int} {e a v u r qt qv qu d c : Int} {T : Nat → Int → Int} {fk fi fz fn fa fs fu : Nat → Int32} {n : Nat}
end
section
variable {b : Int → Int} {e o h : Int} {V : Int → Int → Int → (Nat → Int → Int) → Int × Int × Int × Int × (Nat → Int → Int)}
variable {k : Nat} {a v u l a1 u1 r r1 a2 v2 u2 q a3 d d1 qt qv qu : Int} {T T1 T2 : Nat → Int → Int} {X : Int × Int × Int × Int × (Nat → Int → Int)} {fk fi fz fn fa fs fu gk gi gz gn ga gs gu : Nat → Int32}
end
section
variable {b : Int → Int} {e a l1 l2 l3 l4 w w1 q : Int}
end
section
variable {b : Int → Int} {e a d w r r1 v u q v0 u0 : Int} {fk fi fz fn fa fs fu : Nat → Int32} {T0 : Nat → Int → Int}
end
end
section
-- p9: what is asked of JSON that was read
def jqF (T : Nat → Int → Int) (v i : Int) : Int := if 0 ≤ i ∧ i < v then T 2 i else -1
def jqN (T : Nat → Int → Int) (v i : Int) : Int := if 0 ≤ i ∧ i < v then T 4 i else -1
/-- a string value is the text -/
def jqI (T : Nat → Int → Int) (v : Int) (f : Nat → Int32) (n : Nat) (i : Int) : Int := if jqK T v i = 3 then jqU T f n (T 2 i) (T 3 i) else 0
theorem jqEl_0 {T : Nat → Int → Int} {v i : Int} {g : Int → Int} {m n : Nat} (h : m < n) (he : jqA T v i m ≠ g m) : jqEl T v i g n = 0 := by
  induction n with
  | zero => omega
  | succ n ih =>
    have e : jqEl T v i g (n + 1) = if jqA T v i n = g n then jqEl T v i g n else 0 := rfl
    rw [e]
    by_cases q : m = n
    · subst q; rw [if_neg he]
    · split
      · exact ih (by omega)
      · rfl
theorem jqEl_1 {T : Nat → Int → Int} {v i : Int} {g : Int → Int} {m : Nat} (h : jqEl T v i g m = 1) (he : jqA T v i m = g m) : jqEl T v i g (m + 1) = 1 := by
  have e : jqEl T v i g (m + 1) = if jqA T v i m = g m then jqEl T v i g m else 0 := rfl
  rw [e, if_pos he]; exact h
end
section
-- p9: JSON as the reference reads it
/-- member on both sides -/
theorem jIT.q {T : Nat → Int → Int} {fp f : Nat → Int32} {u : Int} (hu : jjA T 7 u fp) : ∀ (n : Nat) (a : Int), 0 ≤ a → a + n ≤ u → jTx fp f a n = jqTx T f a n
  | 0, _, _, _ => rfl
  | n + 1, a, h0, h1 => by
    show (if jSo fp (a + n) = _ then _ else _) = (if T 7 (a + n) = _ then _ else _)
    rw [hu (a + n) (by omega) (by omega), jIT.q hu n a h0 (by omega)]
theorem jMn.q {T : Nat → Int → Int} {ms mh mx mf mt mb me mi mn fp f : Nat → Int32} {v u x : Int} {n : Nat} (hR : jjTR T v ms mh mx mf mt mb me mi mn) (hu : jjA T 7 u fp) (hx : -1 ≤ x) (hn : 0 < n)
    (hk : ∀ c : Int, 0 ≤ c → c < v → T 8 c = 1 → 0 ≤ T 5 c ∧ 0 ≤ T 6 c ∧ T 5 c + T 6 c ≤ u) : ∀ (k m : Nat) (c d : Int), jjCh T v x k c → k < m → jMn mf mt mx fp f n m c d = jqMl T f n k c d
  | 0, m, c, d, hc, hm => by
    have hc : c = -1 := hc
    exact (jMn_e (by omega) (by omega) rfl).symm
  | k + 1, m, c, d, hc, hm => by
    obtain ⟨c1, c2, c3, c4⟩ := hc
    obtain ⟨_, r2, r3⟩ := hR c (by omega) c2
    obtain ⟨r4, r5⟩ := r3 c3
    obtain ⟨k1, k2, k3⟩ := hk c (by omega) c2 c3
    have e1 : (jIT fp f n (jSo mf c) (jSo mt c) = 0 ∧ jqU T f n (T 5 c) (T 6 c) ≠ 1) ∨ (jIT fp f n (jSo mf c) (jSo mt c) ≠ 0 ∧ jqU T f n (T 5 c) (T 6 c) = 1) := by
      unfold jIT jqU
      by_cases w : jSo mt c - jSo mf c = n
      · have e5 : T 5 c = jSo mf c := by
          rcases r5 with r5 | r5
          · omega
          · exact r5
        rw [if_pos w, if_pos (by omega), ← e5, jIT.q hu n (T 5 c) k1 (by omega)]
        rcases jqTx.r T f (T 5 c) n with q | q
        · exact Or.inl ⟨q, by omega⟩
        · exact Or.inr ⟨by omega, q⟩
      · rw [if_neg w, if_neg (by omega)]
        exact Or.inl ⟨rfl, by omega⟩
    rcases e1 with ⟨q1, q2⟩ | ⟨q1, q2⟩
    · rw [← jMn_s (k := m) (m := c) (m1 := T 4 c) (c1 := d) (by omega) (by omega) r2 (Or.inl ⟨q1, rfl⟩), jMn.q hR hu hx hn hk k (m - 1) (T 4 c) d c4 (by omega)]
      show _ = jqMl T f n k (T 4 c) _
      rw [if_neg q2]
    · rw [← jMn_s (k := m) (m := c) (m1 := T 4 c) (c1 := c) (by omega) (by omega) r2 (Or.inr ⟨q1, rfl⟩), jMn.q hR hu hx hn hk k (m - 1) (T 4 c) c c4 (by omega)]
      show _ = jqMl T f n k (T 4 c) _
      rw [if_pos q2]
theorem jMb.q {T : Nat → Int → Int} {ms mh mx mf mt mb me mi mn fp f : Nat → Int32} {v u a : Int} {n : Nat} (hR : jjTR T v ms mh mx mf mt mb me mi mn) (hu : jjA T 7 u fp) (hco : jjCo T 0 v) (hn : 0 < n) (ha : a < v) (hs : ∀ x : Int, 0 ≤ x → x < v → T 3 x < 3000)
    (hk : ∀ c : Int, 0 ≤ c → c < v → T 8 c = 1 → 0 ≤ T 5 c ∧ 0 ≤ T 6 c ∧ T 5 c + T 6 c ≤ u) : jMb ms mh mf mt mx fp f n a = jqM T v f n a := by
  unfold jMb jqM
  by_cases w : 0 ≤ a
  · obtain ⟨r1, r2, r3⟩ := hR a w ha
    rw [jqK.y w ha]
    by_cases w2 : jSo ms a = 6
    · have e1 : T 1 a = 1 ∧ T 2 a = jSo mh a := by omega
      rw [if_neg (by omega), if_pos e1.1]
      obtain ⟨k, hk1, hc⟩ := hco a w ha (Or.inl e1.1)
      have h3 := hs a w ha
      rw [hk1, show ((k : Nat) : Int).toNat = k by omega, ← e1.2]
      exact jMn.q hR hu (by omega) hn hk k 3102 (T 2 a) (-1) hc (by omega)
    · rw [if_pos (Or.inr w2), if_neg (by omega)]
  · rw [if_pos (Or.inl (by omega)), jqK.n (Or.inl (by omega)), if_neg (by omega)]
end
section
-- p9: documents: places, changes, messages
theorem jdL_s {g : Int → Int} {n w a p a1 p1 : Int} {k : Nat} (h : a < n) (h1 : p < w) (hk : 0 < k) (ea : a1 = a + 1) (ep : p1 = p + jdE g n a) : jdL g n w (k - 1) a1 p1 = jdL g n w k a p := by
  subst ea ep
  cases k with
  | zero => omega
  | succ k => exact (if_pos ⟨h, h1⟩).symm
theorem jdL_e {g : Int → Int} {n w a p : Int} {k : Nat} (h : n ≤ a ∨ w ≤ p) : jdL g n w k a p = (a, p) := by
  cases k with
  | zero => rfl
  | succ k => exact if_neg (fun q => by omega)
theorem jdC_s {g : Int → Int} {n f c a a1 : Int} {k : Nat} (h : a < n) (h1 : a - f < c) (h2 : g a ≠ 10) (h3 : g a ≠ 13) (hk : 0 < k) (ea : a1 = a + 1) : jdC g n f c (k - 1) a1 = jdC g n f c k a := by
  subst ea
  cases k with
  | zero => omega
  | succ k => exact (if_pos ⟨h, h1, h2, h3⟩).symm
theorem jdC_e {g : Int → Int} {n f c a : Int} {k : Nat} (h : n ≤ a ∨ c ≤ a - f ∨ g a = 10 ∨ g a = 13) : jdC g n f c k a = a := by
  cases k with
  | zero => rfl
  | succ k => exact if_neg (fun q => by
      rcases h with h | h | h | h
      · omega
      · omega
      · exact q.2.2.1 h
      · exact q.2.2.2 h)
def jdVs (T : Nat → Int → Int) (v : Int) : Int := jqM T v (jChT "version") 7 (jdTd T v)
def jdTt (T : Nat → Int → Int) (v : Int) : Int := jqM T v (jChT "text") 4 (jdTd T v)
def jdMe (T : Nat → Int → Int) (v : Int) : Int := jqM T v (jChT "method") 6 0
def jdId (T : Nat → Int → Int) (v : Int) : Int := jqM T v (jChT "id") 2 0
/-- is it a message at all -/
def jdGd (T : Nat → Int → Int) (v : Int) : Int := if jqI T v (jChT "2.0") 3 (jqM T v (jChT "jsonrpc") 7 0) = 1 ∧ jqK T v (jdMe T v) = 3 ∧ (jdPm T v < 0 ∨ jqK T v (jdPm T v) = 1) ∧ (jdId T v < 0 ∨ jqK T v (jdId T v) = 4 ∨ (jqK T v (jdId T v) = 3 ∧ T 3 (jdId T v) ≤ 20)) then 1 else 0
def jdUp (F : Int → jdD) (d : Int) (x : jdD) : Int → jdD := fun i => if i = d then x else F i
/-- may one be opened; the new one -/
def jdOp (T : Nat → Int → Int) (v c : Int) (F : Int → jdD) : Int := if jqK T v (jdUr T v) = 3 ∧ 1 ≤ T 3 (jdUr T v) ∧ T 3 (jdUr T v) ≤ 40 ∧ jqK T v (jdVs T v) = 4 ∧ jqK T v (jdTt T v) = 3 ∧ T 3 (jdTt T v) ≤ 1500 ∧ jdWh T v c F < 0 ∧ c < 3 then 1 else 0
def jdNd (T : Nat → Int → Int) (v : Int) : jdD := (T 2 (jdVs T v), T 3 (jdTt T v), jdKp (T 3 (jdTt T v)) (fun j => jqA T v (jdTt T v) j), T 3 (jdUr T v), jdKp (T 3 (jdUr T v)) (fun j => jqA T v (jdUr T v) j))
def jdCg (T : Nat → Int → Int) (v c : Int) (F : Int → jdD) : Int := if 0 ≤ jdWh T v c F ∧ jqK T v (jdVs T v) = 4 ∧ (F (jdWh T v c F)).1 < T 2 (jdVs T v) ∧ jqK T v (jdCc T v) = 2 ∧ 1 ≤ T 3 (jdCc T v) ∧ T 3 (jdCc T v) ≤ 8 ∧ (jdNew T v (F (jdWh T v c F))).1 = 1 then 1 else 0
def jdCd (T : Nat → Int → Int) (v : Int) (D : jdD) : jdD := (T 2 (jdVs T v), (jdNew T v D).2.1, jdKp (jdNew T v D).2.1 (jdNew T v D).2.2, D.2.2.2.1, D.2.2.2.2)
/-- what a message makes of the open documents: their count, each -/
def jdOpen (T : Nat → Int → Int) (v : Int) (S : Int × (Int → jdD)) : Int × (Int → jdD) := if jdOp T v S.1 S.2 = 1 then (S.1 + 1, jdUp S.2 S.1 (jdNd T v)) else S
def jdChange (T : Nat → Int → Int) (v : Int) (S : Int × (Int → jdD)) : Int × (Int → jdD) := if jdCg T v S.1 S.2 = 1 then (S.1, jdUp S.2 (jdWh T v S.1 S.2) (jdCd T v (S.2 (jdWh T v S.1 S.2)))) else S
def jdClose (T : Nat → Int → Int) (v : Int) (S : Int × (Int → jdD)) : Int × (Int → jdD) := if 0 ≤ jdWh T v S.1 S.2 then (S.1 - 1, jdDn S.2 (jdWh T v S.1 S.2)) else S
/-- the text that the first request must have -/
def jdIn : String := "initi" ++ "alize"
/-- the phase behind a request (0 new, 1 ready, 2 shut) -/
def jdRq (T : Nat → Int → Int) (v p : Int) : Int := if p = 0 then (if jqI T v (jChT jdIn) 10 (jdMe T v) = 1 then 1 else 0) else if p = 1 ∧ jqI T v (jChT jdIn) 10 (jdMe T v) ≠ 1 ∧ jqI T v (jChT "shutdown") 8 (jdMe T v) = 1 then 2 else p
/-- the open documents behind a notification -/
def jdNo (T : Nat → Int → Int) (v p : Int) (S : Int × (Int → jdD)) : Int × (Int → jdD) := if p ≠ 1 then S else if jqI T v (jChT "textDocument/didOpen") 20 (jdMe T v) = 1 then jdOpen T v S else if jqI T v (jChT "textDocument/didChange") 22 (jdMe T v) = 1 then jdChange T v S else if jqI T v (jChT "textDocument/didClose") 21 (jdMe T v) = 1 then jdClose T v S else S
/-- a message: whether the server is broken by it, the phase, the documents -/
def jdMg (T : Nat → Int → Int) (v p : Int) (S : Int × (Int → jdD)) : Int × Int × Int × (Int → jdD) := if jdGd T v = 1 then (if 0 ≤ jdId T v then (0, jdRq T v p, S) else if jqI T v (jChT "exit") 4 (jdMe T v) = 1 then (1, p, S) else (0, p, jdNo T v p S)) else (0, p, S)
end
section
-- p9: the texts of all documents, as a walk carries them; System.arraycopy of ints with contents
section J91
variable {dC : Nat → ClassId} {dI : Nat → Nat → Nat} {ca : Nat → ClassId} {G G1 : jT} {H H1 : Heap} {x : Option Nat} {t : jDtl}
theorem jD6.up {a y z u : Nat} {v l : Int32} {f g : Nat → Int32} (h : jD6 dC dI ca G a y z v l f u g H) (hle : jLe G G1) : jD6 dC dI ca G1 a y z v l f u g H := by
  obtain ⟨g3, g4, g5⟩ := h
  refine ⟨fun q hq => ?_, fun q hq => ?_, g5⟩
  · obtain ⟨⟨n, q1⟩, q2⟩ := g3 q hq
    exact ⟨⟨n, hle _ _ q1⟩, q2⟩
  · obtain ⟨q1, q2⟩ := g4 q hq
    exact ⟨hle _ _ q1, q2⟩
/-- a document is opened -/
theorem jCD.opn {a n : Nat} (h : jCD dC dI ca G none t H) (ha : G a = some (3, n)) : (∃ (y z : Nat), G y = some (173, 1500) ∧ G z = some (174, t.ul a) ∧ jP (dC, dI) G H [(a, 3, 2, .ref y), (a, 3, 1, .int (t.ve a)), (a, 3, 3, .int (t.ln a)), (a, 3, 0, .ref z)] ∧ jMc (dC, dI) G H [(y, 173, 1500, ca 1, t.tx a), (z, 174, t.ul a, ca 1, t.ux a)] ∧ t.ul a ≤ 3000) ∧ jCD dC dI ca G (some a) t H := by
  refine ⟨h.at ha (fun q => by cases q), ?_⟩
  obtain ⟨Yt, Yu, h1, h2, h3⟩ := h
  exact ⟨Yt, Yu, h1, h2, fun b m hb _ => h3 b m hb (fun q => by cases q)⟩
/-- it is whole again -/
theorem jCD.full {a n y z u : Nat} {v l : Int32} {f g : Nat → Int32} (h : jCD dC dI ca G (some a) t H) (ha : G a = some (3, n)) (p2 : jf (dC, dI) 3 a 2 (.ref y) H) (p1 : jf (dC, dI) 3 a 1 (.int v) H) (p3 : jf (dC, dI) 3 a 3 (.int l) H) (p0 : jf (dC, dI) 3 a 0 (.ref z) H) (hM : jMc (dC, dI) G H [(y, 173, 1500, ca 1, f), (z, 174, u, ca 1, g)]) (hu : u ≤ 3000) : jCD dC dI ca G none (t.put a v l f u g) H := by
  obtain ⟨Yt, Yu, h1, h2, h3⟩ := h
  have e1 : Yt a = y := by have := jf.uniq (h1 a n ha).1 p2; cases this; rfl
  refine ⟨Yt, jUf Yu a z, h1, h2, fun b m hb _ => ?_⟩
  by_cases e : b = a
  · subst e
    show jD6 dC dI ca G b (Yt b) (jUf Yu b z b) (jUf t.ve b v b) (jUf t.ln b l b) (jUf t.tx b f b) (jUf t.ul b u b) (jUf t.ux b g b) H
    rw [jUf_s, jUf_s, jUf_s, jUf_s, jUf_s, jUf_s, e1]
    refine ⟨fun q hq => ?_, hM, hu⟩
    simp only [List.mem_cons, List.not_mem_nil, or_false] at hq
    rcases hq with rfl | rfl | rfl
    · exact ⟨⟨_, ha⟩, p1⟩
    · exact ⟨⟨_, ha⟩, p3⟩
    · exact ⟨⟨_, ha⟩, p0⟩
  · show jD6 dC dI ca G b (Yt b) (jUf Yu a z b) (jUf t.ve a v b) (jUf t.ln a l b) (jUf t.tx a f b) (jUf t.ul a u b) (jUf t.ux a g b) H
    rw [jUf_n _ _ e, jUf_n _ _ e, jUf_n _ _ e, jUf_n _ _ e, jUf_n _ _ e, jUf_n _ _ e]
    exact h3 b m hb (fun q => e (Option.some.inj q).symm)
/-- a field of the open document is written -/
theorem jCD.fld {a n y : Nat} (h : jCD dC dI ca G (some a) t H) (ha : G a = some (3, n)) (hfr : ∀ p, p ≠ a → H1[p]? = H[p]?) (p2 : jf (dC, dI) 3 a 2 (.ref y) H) (q2 : jf (dC, dI) 3 a 2 (.ref y) H1) : jCD dC dI ca G (some a) t H1 := by
  obtain ⟨Yt, Yu, h1, h2, h3⟩ := h
  have e1 : Yt a = y := by have := jf.uniq (h1 a n ha).1 p2; cases this; rfl
  refine ⟨Yt, Yu, fun b m hb => ?_, h2, fun b m hb hx => ?_⟩
  · obtain ⟨g1, g2⟩ := h1 b m hb
    by_cases e : b = a
    · subst e
      exact ⟨by rw [e1]; exact q2, g2⟩
    · exact ⟨g1.kept (hfr b e), g2⟩
  · have e : b ≠ a := fun q => hx (by rw [q])
    have g := h3 b m hb hx
    refine g.of (fun i v hi hf => hf.kept (hfr b e)) (hfr _ (fun q => ?_)) (hfr _ (fun q => ?_))
    · have g3 := g.gy.1
      rw [q, ha] at g3
      have := congrArg Prod.fst (Option.some.inj g3)
      simp at this
    · have g3 := g.gy.2
      rw [q, ha] at g3
      have := congrArg Prod.fst (Option.some.inj g3)
      simp at this
end J91
-- the reference's
section J92
variable {dC : Nat → ClassId} {dI : Nat → Nat → Nat} {ca : Nat → ClassId} {G G1 : jT} {H H1 : Heap} {x : Option Nat} {t : jDtr}
theorem jRD.opn {a : Nat} (h : jRD dC dI ca G none t H) (ha : G a = some (14, 0)) : (∃ (y z : Nat), G y = some (194, 1500) ∧ G z = some (195, 40) ∧ jP (dC, dI) G H [(a, 14, 3, .ref y), (a, 14, 0, .ref z), (a, 14, 2, .int (t.ve a)), (a, 14, 4, .int (t.ln a)), (a, 14, 1, .int (t.ul a))] ∧ jMc (dC, dI) G H [(y, 194, 1500, ca 1, t.tx a), (z, 195, 40, ca 1, t.ux a)]) ∧ jRD dC dI ca G (some a) t H := by
  refine ⟨h.at ha (fun q => by cases q), ?_⟩
  obtain ⟨Yt, Yu, h1, h2, h3, h4⟩ := h
  exact ⟨Yt, Yu, h1, h2, h3, fun b hb _ => h4 b hb (fun q => by cases q)⟩
theorem jRD.full {a y z : Nat} {u v l : Int32} {f g : Nat → Int32} (h : jRD dC dI ca G (some a) t H) (ha : G a = some (14, 0)) (p3 : jf (dC, dI) 14 a 3 (.ref y) H) (p0 : jf (dC, dI) 14 a 0 (.ref z) H) (p2 : jf (dC, dI) 14 a 2 (.int v) H) (p4 : jf (dC, dI) 14 a 4 (.int l) H) (p1 : jf (dC, dI) 14 a 1 (.int u) H) (hM : jMc (dC, dI) G H [(y, 194, 1500, ca 1, f), (z, 195, 40, ca 1, g)]) : jRD dC dI ca G none (t.put a v l f u g) H := by
  obtain ⟨Yt, Yu, h1, h2, h3, h4⟩ := h
  have e1 : Yt a = y := by have := jf.uniq (h1 a ha).1 p3; cases this; rfl
  have e2 : Yu a = z := by have := jf.uniq (h1 a ha).2.1 p0; cases this; rfl
  refine ⟨Yt, Yu, h1, h2, h3, fun b hb _ => ?_⟩
  by_cases e : b = a
  · subst e
    show jD7 dC dI ca G b (Yt b) (Yu b) (jUf t.ve b v b) (jUf t.ln b l b) (jUf t.tx b f b) (jUf t.ul b u b) (jUf t.ux b g b) H
    rw [jUf_s, jUf_s, jUf_s, jUf_s, jUf_s, e1, e2]
    refine ⟨fun q hq => ?_, hM⟩
    simp only [List.mem_cons, List.not_mem_nil, or_false] at hq
    rcases hq with rfl | rfl | rfl
    · exact ⟨⟨_, ha⟩, p2⟩
    · exact ⟨⟨_, ha⟩, p4⟩
    · exact ⟨⟨_, ha⟩, p1⟩
  · show jD7 dC dI ca G b (Yt b) (Yu b) (jUf t.ve a v b) (jUf t.ln a l b) (jUf t.tx a f b) (jUf t.ul a u b) (jUf t.ux a g b) H
    rw [jUf_n _ _ e, jUf_n _ _ e, jUf_n _ _ e, jUf_n _ _ e, jUf_n _ _ e]
    exact h4 b hb (fun q => e (Option.some.inj q).symm)
theorem jRD.fld {a y z : Nat} (h : jRD dC dI ca G (some a) t H) (ha : G a = some (14, 0)) (hfr : ∀ p, p ≠ a → H1[p]? = H[p]?) (p3 : jf (dC, dI) 14 a 3 (.ref y) H) (p0 : jf (dC, dI) 14 a 0 (.ref z) H) (q3 : jf (dC, dI) 14 a 3 (.ref y) H1) (q0 : jf (dC, dI) 14 a 0 (.ref z) H1) : jRD dC dI ca G (some a) t H1 := by
  obtain ⟨Yt, Yu, h1, h2, h3, h4⟩ := h
  have e1 : Yt a = y := by have := jf.uniq (h1 a ha).1 p3; cases this; rfl
  have e2 : Yu a = z := by have := jf.uniq (h1 a ha).2.1 p0; cases this; rfl
  refine ⟨Yt, Yu, fun b hb => ?_, h2, h3, fun b hb hx => ?_⟩
  · obtain ⟨g1, g2, g3, g4⟩ := h1 b hb
    by_cases e : b = a
    · subst e
      exact ⟨by rw [e1]; exact q3, by rw [e2]; exact q0, g3, g4⟩
    · exact ⟨g1.kept (hfr b e), g2.kept (hfr b e), g3, g4⟩
  · have e : b ≠ a := fun q => hx (by rw [q])
    have g := h4 b hb hx
    refine g.of (fun i v hi hf => hf.kept (hfr b e)) (hfr _ (fun q => ?_)) (hfr _ (fun q => ?_))
    · have g3 := g.gy.1
      rw [q, ha] at g3
      have := congrArg Prod.fst (Option.some.inj g3)
      simp at this
    · have g3 := g.gy.2
      rw [q, ha] at g3
      have := congrArg Prod.fst (Option.some.inj g3)
      simp at this
end J92
section J93
variable {p : Program} {l : Launch} {e : Env} {R : Room} {s : State} {m : MethodId} {args : Array Value} {below : List Frame} {meth : Method} {c : Code} {H : Heap} {locs : List Loc} {cells slots : Nat} {Q : State → Prop}
variable {cc : ByteArray} {pc : Nat} {ls : Array Slot} {rest : List Value} {dC : Nat → ClassId} {dI : Nat → Nat → Nat} {ca : Nat → ClassId} {B : jF} {base : Nat} {G0 G : jT} {E : List (Nat × Nat)} {H0 : Heap} {zc zs : Nat} {L : List jPin} {M : List jCt} {I : List jIv} {a a0 k k0 n n0 index : Nat} {tys : List (ClassId × FieldType)} {own : String} {P P0 : Nat → Int32 → Prop} {cA : ClassId}
end J93
-- texts alike, a part of a text exchanged
theorem jdB.done {g h : Int → Int} {s e z z1 n n1 v : Int} {q : Int → Int} (hb : jdB g h s e z n v q) (hv : z ≤ v) (hs : 0 ≤ s) (hz : z1 = z) (hn : n1 = n) : jdG g h s e z1 q n1 := fun j j0 j1 => by
  subst hz hn
  unfold jdR
  by_cases w : j < s
  · rw [if_pos w]; exact hb.1 j j0 w
  · by_cases w1 : j < s + z1
    · rw [if_neg w, if_pos w1]; exact hb.2.1 j (by omega) (by omega)
    · rw [if_neg w, if_neg w1]; exact hb.2.2 j (by omega) j1
theorem jdS.w {T : Nat → Int → Int} {v n c r : Int} {g : Int → Int} (hr : r = jqM T v (jChT "range") 5 c) (h : r < 0) : jdS T v g n c = (0, n) := by
  unfold jdS
  rw [← hr, if_pos h]
end
section
-- p9: the open documents, by their number
theorem jdAt {x : Nat} {o : Option Nat} (h : (Value.ref x) = va_rf o) : o = some x := by
  cases o with
  | none => cases h
  | some y => cases h; rfl
theorem jdF_s {T : Nat → Int → Int} {v i d d1 : Int} {ul : Int → Int} {ur : Int → Int → Int} {k : Nat} (hk : 0 < k) (h : jqE T v i (ur d) (ul d) ≠ 1) (e : d1 = d + 1) : jdF T v i ul ur (k - 1) d1 = jdF T v i ul ur k d := by
  subst e
  cases k with
  | zero => omega
  | succ k => exact (if_neg h).symm
theorem jdF_y {T : Nat → Int → Int} {v i d : Int} {ul : Int → Int} {ur : Int → Int → Int} {k : Nat} (hk : 0 < k) (h : jqE T v i (ur d) (ul d) = 1) : jdF T v i ul ur k d = d := by
  cases k with
  | zero => omega
  | succ k => exact if_pos h
/-- the document of a number -/
def jdRf (w : jWl9) (d : Int) : Value := if d < 0 then .null else va_rf (w.2 d.toNat)
theorem jdLi.opn {c c1 : Int} {e e1 : Nat → Option Nat} {h h1 : Nat → jdD} {x : Nat} {X : jdD} (hc0 : 0 ≤ c) (hc : c1 = c + 1) (he : ∀ i : Nat, (i : Int) < c → e1 i = e i) (hx : e1 c.toNat = some x) (hX : h1 x = X) (hh : ∀ (i a : Nat), (i : Int) < c → e i = some a → h1 a = h a) : jdLi c1 e1 h1 = jdUp (jdLi c e h) c X := by
  subst hc
  funext d
  unfold jdUp
  by_cases q : d = c
  · subst q
    rw [if_pos rfl, jdLi.at hc0 (by omega) hx, hX]
  · rw [if_neg q, ← jdLi.cg he hh]
    by_cases w : 0 ≤ d ∧ d < c
    · unfold jdLi
      rw [if_pos w, if_pos ⟨w.1, by omega⟩]
    · rw [jdLi.out (by omega), jdLi.out (by omega)]
theorem jdLi.chg {c d : Int} {e : Nat → Option Nat} {h h1 : Nat → jdD} {x : Nat} {X : jdD} (h0 : 0 ≤ d) (hd : d < c) (hx : e d.toNat = some x) (hX : h1 x = X) (hi : ∀ i : Nat, (i : Int) < c → e i = some x → i = d.toNat) (hh : ∀ (i a : Nat), (i : Int) < c → e i = some a → a ≠ x → h1 a = h a) : jdLi c e h1 = jdUp (jdLi c e h) d X := by
  funext k
  unfold jdUp
  by_cases q : k = d
  · subst q
    rw [if_pos rfl, jdLi.at h0 hd hx, hX]
  · rw [if_neg q]
    by_cases w : 0 ≤ k ∧ k < c
    · unfold jdLi
      rw [if_pos w, if_pos w]
      cases g : e k.toNat with
      | none => rfl
      | some a => exact hh k.toNat a (by omega) g (fun z => by
          subst z
          have := hi k.toNat (by omega) g
          omega)
    · rw [jdLi.out (by omega), jdLi.out (by omega)]
/-- one document of the class, one of the reference -/
def jdC1 (t : jDtl) (a : Nat) : jdD := ((t.ve a).toInt, (t.ln a).toInt, jdKp (t.ln a).toInt (jSo (t.tx a)), ((t.ul a : Nat) : Int), jdKp ((t.ul a : Nat) : Int) (jSo (t.ux a)))
def jdR1 (t : jDtr) (a : Nat) : jdD := ((t.ve a).toInt, (t.ln a).toInt, jdKp (t.ln a).toInt (jSo (t.tx a)), (t.ul a).toInt, jdKp (t.ul a).toInt (jSo (t.ux a)))
def jdCs (t : jDtl) (w : jWl9) : Int × (Int → jdD) := (w.1, jdLi w.1 w.2 (jdC1 t))
def jdRs (t : jDtr) (e : Nat → Option Nat) (c : Int) : Int × (Int → jdD) := (c, jdLi c e (jdR1 t))
theorem jdKp.v {n : Int} {g : Int → Int} : ∀ j : Int, 0 ≤ j → j < n → jdKp n g j = g j := fun _ h0 h1 => if_pos ⟨h0, h1⟩
/-- the class looks it up so -/
theorem jdWh.c {T : Nat → Int → Int} {v : Int} {t : jDtl} {w : jWl9} (he : ∀ i : Nat, (i : Int) < w.1 → ∃ a, w.2 i = some a) : jdF T v (jdUr T v) (jdUl t w) (jdUx t w) w.1.toNat 0 = jdWh T v (jdCs t w).1 (jdCs t w).2 := by
  refine jdF.cg w.1.toNat 0 (fun x h0 h1 => ?_)
  obtain ⟨a, ha⟩ := he x.toNat (by omega)
  have e : (jdCs t w).2 x = jdC1 t a := jdLi.at h0 (by omega) ha
  show jqE T v (jdUr T v) (jdUx t w x) (jdUl t w x) = jqE T v (jdUr T v) ((jdCs t w).2 x).2.2.2.2 ((jdCs t w).2 x).2.2.2.1
  rw [e, jdUx.at ha, jdUl.at ha]
  exact (jqE.cg (g := jdKp ((t.ul a : Nat) : Int) (jSo (t.ux a))) (h := jSo (t.ux a)) jdKp.v).symm
end
section
-- p9: a change looks only at the units below the length
/-- one more is made -/
theorem jdJ.s {T : Nat → Int → Int} {v c c1 n n1 r : Int} {k : Nat} {f f1 : Nat → Int32} {R : Int × Int × (Int → Int)} (hT : ∀ x, jqK T v x = 3 → 0 ≤ T 3 x) (hn : 0 ≤ n) (h : jdJ T v k c n f R) (hk : 0 < k) (ha : jdA T v n c f f1 r n1) (hr : r ≠ 0) (hc : c1 = T 4 c) : jdJ T v (k - 1) c1 n1 f1 R := by
  subst hc
  rcases ha with ⟨-, b, d, e⟩ | ⟨q, -⟩
  · cases k with
    | zero => omega
    | succ k =>
      have e1 : jdCh T v (k + 1) c n (jSo f) = jdCh T v k (T 4 c) (jdO T v (jSo f) n c).2.1 (jdO T v (jSo f) n c).2.2 := if_pos b
      unfold jdJ at h
      rw [e1, ← d] at h
      obtain ⟨a1, a2, a3⟩ := jdCh.cg hT k (T 4 c) n1 (jSo f1) (jdO T v (jSo f) n c).2.2 (by rw [d]; exact jdO.nn hn hT) e
      exact ⟨a1.trans h.1, a2.trans h.2.1, (by rw [h.2.1] at a3; exact a3.tr h.2.2)⟩
  · exact absurd q hr
/-- one can't be made: none of all is -/
theorem jdJ.n {T : Nat → Int → Int} {v c n n1 r : Int} {k : Nat} {f f1 : Nat → Int32} {R : Int × Int × (Int → Int)} (h : jdJ T v k c n f R) (hk : 0 < k) (ha : jdA T v n c f f1 r n1) (hr : r = 0) : R.1 = 0 := by
  rcases ha with ⟨q, -⟩ | ⟨-, b⟩
  · omega
  · cases k with
    | zero => omega
    | succ k =>
      have e1 : jdCh T v (k + 1) c n (jSo f) = (0, n, jSo f) := if_neg (by rw [b]; decide)
      rw [← h.1, e1]
/-- all are made -/
theorem jdJ.e {T : Nat → Int → Int} {v c n : Int} {f : Nat → Int32} {R : Int × Int × (Int → Int)} (h : jdJ T v 0 c n f R) : R.1 = 1 ∧ R.2.1 = n ∧ jdV (jSo f) R.2.2 n := ⟨h.1.symm, h.2.1.symm, (by have h9 := h.2.2; rw [← h.2.1] at h9; exact h9)⟩
end
section
-- p9: the open documents of the class: what holds of them, how they change
/-- lengths, the elements of the list, which are pairwise different -/
def jdIv (t : jDtl) (w : jWl9) : Prop := (∀ a, 0 ≤ (t.ln a).toInt ∧ (t.ln a).toInt ≤ 1500) ∧ (∀ i : Nat, (i : Int) < w.1 → ∃ a, w.2 i = some a) ∧ (∀ i j : Nat, (i : Int) < w.1 → (j : Int) < w.1 → w.2 i = w.2 j → i = j) ∧ 0 ≤ w.1
/-- a new document -/
def jDnw (t t1 : jDtl) (a : Nat) : Prop := ∃ f g : Nat → Int32, t1 = t.put a 0 0 f 0 g
theorem jDtl.put_ln (t : jDtl) (a : Nat) (v l : Int32) (f : Nat → Int32) (u : Nat) (g : Nat → Int32) : (t.put a v l f u g).ln = jUf t.ln a l := rfl
theorem jdC1.put_s (t : jDtl) (a : Nat) (v l : Int32) (f : Nat → Int32) (u : Nat) (g : Nat → Int32) : jdC1 (t.put a v l f u g) a = (v.toInt, l.toInt, jdKp l.toInt (jSo f), ((u : Nat) : Int), jdKp ((u : Nat) : Int) (jSo g)) := by
  show ((jUf t.ve a v a).toInt, (jUf t.ln a l a).toInt, jdKp (jUf t.ln a l a).toInt (jSo (jUf t.tx a f a)), ((jUf t.ul a u a : Nat) : Int), jdKp ((jUf t.ul a u a : Nat) : Int) (jSo (jUf t.ux a g a))) = _
  rw [jUf_s, jUf_s, jUf_s, jUf_s, jUf_s]
theorem jdC1.put_n (t : jDtl) {a b : Nat} (v l : Int32) (f : Nat → Int32) (u : Nat) (g : Nat → Int32) (h : b ≠ a) : jdC1 (t.put a v l f u g) b = jdC1 t b := by
  show ((jUf t.ve a v b).toInt, (jUf t.ln a l b).toInt, jdKp (jUf t.ln a l b).toInt (jSo (jUf t.tx a f b)), ((jUf t.ul a u b : Nat) : Int), jdKp ((jUf t.ul a u b : Nat) : Int) (jSo (jUf t.ux a g b))) = _
  rw [jUf_n _ _ h, jUf_n _ _ h, jUf_n _ _ h, jUf_n _ _ h, jUf_n _ _ h]
  rfl
theorem jdIv.ln {t : jDtl} {w w1 : jWl9} (h : jdIv t w) {a : Nat} {v l : Int32} {f : Nat → Int32} {u : Nat} {g : Nat → Int32} (h0 : 0 ≤ l.toInt) (h1 : l.toInt ≤ 1500) : ∀ b, 0 ≤ ((t.put a v l f u g).ln b).toInt ∧ ((t.put a v l f u g).ln b).toInt ≤ 1500 := fun b => by
  rw [jDtl.put_ln]
  by_cases e : b = a
  · subst e; rw [jUf_s]; exact ⟨h0, h1⟩
  · rw [jUf_n _ _ e]; exact h.1 b
/-- a document that is not listed may change -/
theorem jdIv.put {t : jDtl} {w : jWl9} (h : jdIv t w) {a : Nat} {v l : Int32} {f : Nat → Int32} {u : Nat} {g : Nat → Int32} (h0 : 0 ≤ l.toInt) (h1 : l.toInt ≤ 1500) : jdIv (t.put a v l f u g) w := ⟨h.ln (w1 := w) h0 h1, h.2⟩
theorem jdCs.put {t : jDtl} {w : jWl9} {a : Nat} {v l : Int32} {f : Nat → Int32} {u : Nat} {g : Nat → Int32} (hn : ∀ i : Nat, (i : Int) < w.1 → w.2 i ≠ some a) : jdCs (t.put a v l f u g) w = jdCs t w := by
  unfold jdCs
  rw [jdLi.cg (e := w.2) (h := jdC1 t) (fun i _ => rfl) (fun i b hi hb => jdC1.put_n t v l f u g (fun q => hn i hi (by rw [hb, q])))]
theorem jDnw.iv {t t1 : jDtl} {w : jWl9} {a : Nat} (h : jDnw t t1 a) (hI : jdIv t w) : jdIv t1 w := by
  obtain ⟨f, g, rfl⟩ := h
  exact hI.put (by decide) (by decide)
theorem jLs.nn {dC : Nat → ClassId} {dI : Nat → Nat → Nat} {ca : Nat → ClassId} {G : jT} {k a : Nat} {w : jWl9} {H : Heap} (h : jLs dC dI ca G k none w H) (ha : G a = some (1, 1)) : ∀ i : Nat, (i : Int) < w.1 → ∃ b, w.2 i = some b := fun i hi => by
  obtain ⟨z, x, -, -, h3, h4⟩ := h.at ha
  rcases h4 with ⟨-, -, g3⟩ | ⟨m, f, g1, -, g3, g4, g5, g6⟩
  · have := g3 rfl
    omega
  · obtain ⟨e1, e2⟩ := g6 rfl
    have hz : (i : Int) < z.toInt := by omega
    have h9 := g5 i hz
    rw [e2 i hz] at h9
    cases q : w.2 i with
    | none => exact absurd q h9
    | some b => exact ⟨b, rfl⟩
/-- which document is meant -/
theorem jdRf.n {w : jWl9} {d : Int} (he : ∀ i : Nat, (i : Int) < w.1 → ∃ a, w.2 i = some a) (h1 : d < w.1) (h : (Value.null) = jdRf w d) : d < 0 := by
  unfold jdRf at h
  by_cases q : d < 0
  · exact q
  · rw [if_neg q] at h
    obtain ⟨a, ha⟩ := he d.toNat (by omega)
    rw [ha] at h
    cases h
theorem jdRf.y {w : jWl9} {d : Int} {x : Nat} (h : (Value.ref x) = jdRf w d) : 0 ≤ d ∧ w.2 d.toNat = some x := by
  unfold jdRf at h
  by_cases q : d < 0
  · rw [if_pos q] at h; cases h
  · rw [if_neg q] at h
    exact ⟨by omega, jdAt h⟩
/-- the number that the class finds -/
theorem jdWh.n {T : Nat → Int → Int} {v : Int} {t : jDtl} {w : jWl9} (hI : jdIv t w) (h : (Value.null) = jdRf w (jdF T v (jdUr T v) (jdUl t w) (jdUx t w) w.1.toNat 0)) : jdWh T v (jdCs t w).1 (jdCs t w).2 < 0 := by
  rw [jdWh.c hI.2.1] at h
  refine jdRf.n hI.2.1 ?_ h
  rcases jdWh.r (T := T) (v := v) (c := (jdCs t w).1) (F := (jdCs t w).2) hI.2.2.2 with e | e
  · have := hI.2.2.2
    omega
  · exact e.2
theorem jdWh.y {T : Nat → Int → Int} {v : Int} {t : jDtl} {w : jWl9} {x : Nat} (hI : jdIv t w) (h : (Value.ref x) = jdRf w (jdF T v (jdUr T v) (jdUl t w) (jdUx t w) w.1.toNat 0)) : 0 ≤ jdWh T v (jdCs t w).1 (jdCs t w).2 ∧ jdWh T v (jdCs t w).1 (jdCs t w).2 < w.1 ∧ w.2 (jdWh T v (jdCs t w).1 (jdCs t w).2).toNat = some x := by
  rw [jdWh.c hI.2.1] at h
  obtain ⟨a, b⟩ := jdRf.y h
  rcases jdWh.r (T := T) (v := v) (c := (jdCs t w).1) (F := (jdCs t w).2) hI.2.2.2 with e | e
  · omega
  · exact ⟨a, e.2, b⟩
theorem jdVs.of {T : Nat → Int → Int} {v a b c z : Int} (hz : z = 0) (h1 : a = jqM T v (jChT "params") 6 z) (h2 : b = jqM T v (jChT "textDocument") 12 a) (h3 : c = jqM T v (jChT "version") 7 b) : c = jdVs T v := by
  subst hz h1 h2 h3
  rfl
theorem jdTt.of {T : Nat → Int → Int} {v a b c z : Int} (hz : z = 0) (h1 : a = jqM T v (jChT "params") 6 z) (h2 : b = jqM T v (jChT "textDocument") 12 a) (h3 : c = jqM T v (jChT "text") 4 b) : c = jdTt T v := by
  subst hz h1 h2 h3
  rfl
theorem jdCc.of {T : Nat → Int → Int} {v a b z : Int} (hz : z = 0) (h1 : a = jqM T v (jChT "params") 6 z) (h2 : b = jqM T v (jChT "contentChanges") 14 a) : b = jdCc T v := by
  subst hz h1 h2
  rfl
theorem jqZ.k {T : Nat → Int → Int} {v i k : Int} (h : jqK T v i = k) (hk : k ≠ 0) : jqZ T v i = T 3 i := by
  have hp := jqK.p (T := T) (v := v) (i := i) (by omega)
  exact if_pos ⟨hp.1, hp.2.1⟩
theorem jqV.k {T : Nat → Int → Int} {v i k : Int} (h : jqK T v i = k) (hk : k ≠ 0) : jqV T v i = T 2 i := by
  have hp := jqK.p (T := T) (v := v) (i := i) (by omega)
  exact if_pos ⟨hp.1, hp.2.1⟩
/-- may it be opened, as the class asks -/
theorem jdOp.y {T : Nat → Int → Int} {v u s t : Int} {d : jDtl} {w : jWl9} (hI : jdIv d w) (hu : u = jdUr T v) (hs : s = jdVs T v) (ht : t = jdTt T v) (k1 : jqK T v u = 3) (z1 : 1 ≤ jqZ T v u) (z2 : jqZ T v u ≤ 40) (k2 : jqK T v s = 4) (k3 : jqK T v t = 3) (z3 : jqZ T v t ≤ 1500) (hn : jdWh T v (jdCs d w).1 (jdCs d w).2 < 0) (hc : w.1 < 3) : jdOp T v (jdCs d w).1 (jdCs d w).2 = 1 := by
  rw [jqZ.k k1 (by decide)] at z1 z2
  rw [jqZ.k k3 (by decide)] at z3
  subst hu hs ht
  exact if_pos ⟨k1, z1, z2, k2, k3, z3, hn, hc⟩
theorem jdOp.n {T : Nat → Int → Int} {v u s t : Int} {d : jDtl} {w : jWl9} (hu : u = jdUr T v) (hs : s = jdVs T v) (ht : t = jdTt T v) (h : ¬ (jqK T v u = 3 ∧ 1 ≤ jqZ T v u ∧ jqZ T v u ≤ 40 ∧ jqK T v s = 4 ∧ jqK T v t = 3 ∧ jqZ T v t ≤ 1500 ∧ jdWh T v (jdCs d w).1 (jdCs d w).2 < 0 ∧ w.1 < 3)) : jdCs d w = jdOpen T v (jdCs d w) := by
  subst hu hs ht
  unfold jdOpen
  rw [if_neg (fun q => ?_)]
  unfold jdOp at q
  split at q
  · rename_i g
    refine h ⟨g.1, ?_, ?_, g.2.2.2.1, g.2.2.2.2.1, ?_, g.2.2.2.2.2.2.1, g.2.2.2.2.2.2.2⟩
    · rw [jqZ.k g.1 (by decide)]; exact g.2.1
    · rw [jqZ.k g.1 (by decide)]; exact g.2.2.1
    · rw [jqZ.k g.2.2.2.2.1 (by decide)]; exact g.2.2.2.2.2.1
  · omega
theorem jdOpen.y {T : Nat → Int → Int} {v u s t : Int} {d d1 d2 : jDtl} {w w1 : jWl9} {r : Nat} {ve ln : Int32} {tx ux : Nat → Int32} {ul : Nat} (hI : jdIv d w) (hop : jdOp T v (jdCs d w).1 (jdCs d w).2 = 1) (hw : w1 = (w.1 + 1, jUf w.2 w.1.toNat (some r))) (hn : ∀ i : Nat, (i : Int) < w.1 → w.2 i ≠ some r) (h1 : jDnw d d1 r) (h2 : d2 = d1.put r ve ln tx ul ux) (hu : u = jdUr T v) (hs : s = jdVs T v) (ht : t = jdTt T v)
    (hve : ve.toInt = jqV T v s) (hln : ln.toInt = jqZ T v t) (htx : ∀ j : Int, 0 ≤ j → j < ln.toInt → jSo tx j = jqA T v t j) (hul : ((ul : Nat) : Int) = T 3 u) (hux : ∀ j : Int, 0 ≤ j → j < ((ul : Nat) : Int) → jSo ux j = jqA T v u j) (h0 : 0 ≤ ln.toInt) (hl : ln.toInt ≤ 1500) : jdIv d2 w1 ∧ jdCs d2 w1 = jdOpen T v (jdCs d w) := by
  subst hu hs ht hw h2
  have hop1 : jqK T v (jdVs T v) = 4 ∧ jqK T v (jdTt T v) = 3 := by
    unfold jdOp at hop
    split at hop
    · rename_i g
      exact ⟨g.2.2.2.1, g.2.2.2.2.1⟩
    · omega
  have e0 := hI.2.2.2
  have I1 := h1.iv hI
  refine ⟨⟨I1.ln (w1 := w) h0 hl, fun i hi => ?_, fun i j hi hj e => ?_, ?_⟩, ?_⟩
  · have hi : (i : Int) < w.1 + 1 := hi
    by_cases q : i = w.1.toNat
    · exact ⟨r, by show jUf w.2 w.1.toNat (some r) i = some r; rw [q, jUf_s]⟩
    · obtain ⟨a, ha⟩ := hI.2.1 i (by omega)
      exact ⟨a, by show jUf w.2 w.1.toNat (some r) i = some a; rw [jUf_n _ _ q]; exact ha⟩
  · have hi : (i : Int) < w.1 + 1 := hi
    have hj : (j : Int) < w.1 + 1 := hj
    have e : jUf w.2 w.1.toNat (some r) i = jUf w.2 w.1.toNat (some r) j := e
    by_cases q : i = w.1.toNat
    · by_cases p : j = w.1.toNat
      · omega
      · rw [q, jUf_s, jUf_n _ _ p] at e
        exact absurd e.symm (hn j (by omega))
    · by_cases p : j = w.1.toNat
      · rw [p, jUf_s, jUf_n _ _ q] at e
        exact absurd e (hn i (by omega))
      · rw [jUf_n _ _ q, jUf_n _ _ p] at e
        exact hI.2.2.1 i j (by omega) (by omega) e
  · show 0 ≤ w.1 + 1
    omega
  · unfold jdOpen
    rw [if_pos hop]
    refine Prod.ext rfl ?_
    show jdLi (w.1 + 1) (jUf w.2 w.1.toNat (some r)) (jdC1 (d1.put r ve ln tx ul ux)) = jdUp (jdLi w.1 w.2 (jdC1 d)) w.1 (jdNd T v)
    refine jdLi.opn e0 rfl (fun i hi => jUf_n _ _ (by omega)) (jUf_s _ _ _) ?_ (fun i a hi ha => ?_)
    · rw [jdC1.put_s]
      unfold jdNd
      rw [hve, hln, jqV.k hop1.1 (by decide), ← hul, jdKp.cg (n := ((ul : Nat) : Int)) hux, jdKp.cg (n := jqZ T v (jdTt T v)) (fun j j0 j1 => htx j j0 (by rw [hln]; exact j1)), jqZ.k hop1.2 (by decide)]
    · obtain ⟨f, g, e⟩ := h1
      have ne : a ≠ r := fun q => hn i hi (by rw [ha, q])
      rw [jdC1.put_n d1 ve ln tx ul ux ne, e, jdC1.put_n d 0 0 f 0 g ne]
/-- one is closed -/
theorem jdClose.n {T : Nat → Int → Int} {v : Int} {d : jDtl} {w : jWl9} (hn : jdWh T v (jdCs d w).1 (jdCs d w).2 < 0) : jdCs d w = jdClose T v (jdCs d w) := (if_neg (by omega)).symm
theorem jdClose.y {T : Nat → Int → Int} {v n : Int} {d : jDtl} {w w1 : jWl9} {x : Nat} (hI : jdIv d w) (h : 0 ≤ jdWh T v (jdCs d w).1 (jdCs d w).2 ∧ jdWh T v (jdCs d w).1 (jdCs d w).2 < w.1 ∧ w.2 (jdWh T v (jdCs d w).1 (jdCs d w).2).toNat = some x) (h0 : 0 ≤ n) (h1 : n < w.1) (hx : w.2 n.toNat = some x) (hw : w1 = (w.1 - 1, jRmv w.2 n.toNat)) : jdIv d w1 ∧ jdCs d w1 = jdClose T v (jdCs d w) := by
  have e : n = jdWh T v (jdCs d w).1 (jdCs d w).2 := by
    have := hI.2.2.1 n.toNat (jdWh T v (jdCs d w).1 (jdCs d w).2).toNat (by omega) (by omega) (by rw [hx, h.2.2])
    omega
  subst hw
  have k : ∀ i : Nat, jRmv w.2 n.toNat i = if i < n.toNat then w.2 i else w.2 (i + 1) := fun i => rfl
  refine ⟨⟨hI.1, fun i hi => ?_, fun i j hi hj q => ?_, ?_⟩, ?_⟩
  · have hi : (i : Int) < w.1 - 1 := hi
    show ∃ a, jRmv w.2 n.toNat i = some a
    rw [k]
    split
    · exact hI.2.1 i (by omega)
    · exact hI.2.1 (i + 1) (by omega)
  · have hi : (i : Int) < w.1 - 1 := hi
    have hj : (j : Int) < w.1 - 1 := hj
    have q : jRmv w.2 n.toNat i = jRmv w.2 n.toNat j := q
    rw [k, k] at q
    split at q
    · split at q
      · exact hI.2.2.1 i j (by omega) (by omega) q
      · have := hI.2.2.1 i (j + 1) (by omega) (by omega) q
        omega
    · split at q
      · have := hI.2.2.1 (i + 1) j (by omega) (by omega) q
        omega
      · have := hI.2.2.1 (i + 1) (j + 1) (by omega) (by omega) q
        omega
  · show 0 ≤ w.1 - 1
    omega
  · unfold jdClose
    rw [if_pos h.1]
    refine Prod.ext rfl ?_
    rw [← e]
    exact jdLi.cls h0 h1 rfl (fun i hi => if_pos (by omega)) (fun i hi _ => if_neg (by omega))
theorem jdG.all {g h : Int → Int} {s e z n : Int} {q : Int → Int} (hG : jdG g h s e z q n) (hs : s = 0) (hn : n ≤ z) : ∀ j : Int, 0 ≤ j → j < n → h j = q j := fun j j0 j1 => by
  subst hs
  rw [hG j j0 j1]
  unfold jdR
  rw [if_neg (by omega), if_pos (by omega), Int.sub_zero]
end
section
-- p9: a document is changed
theorem jdO.in {T : Nat → Int → Int} {v n c : Int} {g : Int → Int} (h : (jdO T v g n c).1 = 1) : 0 ≤ c ∧ c < v := by
  unfold jdO at h
  split at h
  · rename_i w
    have h1 := jqK.p (T := T) (v := v) (i := jqM T v (jChT "text") 4 c) (by omega)
    have h2 : jqK T v c = 1 := by
      by_cases q : jqK T v c = 1
      · exact q
      · have e : jqM T v (jChT "text") 4 c = -1 := if_neg q
        omega
    have h3 := jqK.p (T := T) (v := v) (i := c) (by omega)
    exact ⟨h3.1, h3.2.1⟩
  · have h : (0 : Int) = 1 := h
    omega
theorem jdA.in {T : Nat → Int → Int} {v n c r n1 : Int} {f f1 : Nat → Int32} (h : jdA T v n c f f1 r n1) (hr : r ≠ 0) : 0 ≤ c ∧ c < v := by
  rcases h with ⟨-, b, -, -⟩ | ⟨a, -⟩
  · exact jdO.in b
  · exact absurd a hr
theorem jdA.nx {T : Nat → Int → Int} {v n c r n1 x : Int} {f f1 : Nat → Int32} (h : jdA T v n c f f1 r n1) (hr : r ≠ 0) (hx : x = jqN T v c) : x = T 4 c := hx.trans (if_pos (h.in hr))
theorem jdA.ln {T : Nat → Int → Int} {v n c r n1 : Int} {f f1 : Nat → Int32} (hT : ∀ x, jqK T v x = 3 → 0 ≤ T 3 x) (hn : 0 ≤ n) (h : jdA T v n c f f1 r n1) (hr : r ≠ 0) : 0 ≤ n1 ∧ n1 ≤ 1500 := by
  rcases h with ⟨-, b, d, -⟩ | ⟨a, -⟩
  · refine ⟨by rw [d]; exact jdO.nn hn hT, ?_⟩
    rw [d]
    unfold jdO at b ⊢
    split at b
    · rename_i w
      rw [if_pos w]
      exact w.2.2.2
    · have b : (0 : Int) = 1 := b
      omega
  · exact absurd a hr
/-- which conditions the class asks for -/
theorem jdCg.d {d : jDtl} {w : jWl9} {x : Nat} {i : Int} (h : 0 ≤ i ∧ i < w.1 ∧ w.2 i.toNat = some x) : (jdCs d w).2 i = jdC1 d x := jdLi.at h.1 h.2.1 h.2.2
theorem jdNew.d {T : Nat → Int → Int} {v c : Int} {d : jDtl} {x : Nat} {R : Int × Int × (Int → Int)} (hT : ∀ x, jqK T v x = 3 → 0 ≤ T 3 x) (hn : 0 ≤ (d.ln x).toInt) (hc : c = jdCc T v) (k2 : jqK T v c = 2) (hR : R = jdCh T v (jqZ T v c).toNat (jqF T v c) (d.ln x).toInt (jSo (d.tx x))) : (jdNew T v (jdC1 d x)).1 = R.1 ∧ (jdNew T v (jdC1 d x)).2.1 = R.2.1 ∧ jdKp (jdNew T v (jdC1 d x)).2.1 (jdNew T v (jdC1 d x)).2.2 = jdKp R.2.1 R.2.2 := by
  have hp := jqK.p (T := T) (v := v) (i := c) (by omega)
  have e1 : jqF T v c = T 2 c := if_pos ⟨hp.1, hp.2.1⟩
  rw [hR, e1, jqZ.k k2 (by decide), hc]
  exact jdNew.cg hT hn (jdKp.v)
theorem jdChange.n {T : Nat → Int → Int} {v s c : Int} {d : jDtl} {w : jWl9} {x : Nat} {R : Int × Int × (Int → Int)} (hT : ∀ x, jqK T v x = 3 → 0 ≤ T 3 x) (hI : jdIv d w) (hs : s = jdVs T v) (hc : c = jdCc T v) (hx : 0 ≤ jdWh T v (jdCs d w).1 (jdCs d w).2 ∧ jdWh T v (jdCs d w).1 (jdCs d w).2 < w.1 ∧ w.2 (jdWh T v (jdCs d w).1 (jdCs d w).2).toNat = some x)
    (h : jqK T v s ≠ 4 ∨ jqV T v s ≤ (d.ve x).toInt ∨ jqK T v c ≠ 2 ∨ jqZ T v c < 1 ∨ 8 < jqZ T v c ∨ (R = jdCh T v (jqZ T v c).toNat (jqF T v c) (d.ln x).toInt (jSo (d.tx x)) ∧ R.1 = 0)) : jdCs d w = jdChange T v (jdCs d w) := by
  unfold jdChange
  rw [if_neg (fun q => ?_)]
  unfold jdCg at q
  rw [jdCg.d hx] at q
  split at q
  · rename_i g
    obtain ⟨-, g2, g3, g4, g5, g6, g7⟩ := g
    rw [← hs] at g2 g3
    rw [← hc] at g4 g5 g6
    rcases h with h | h | h | h | h | ⟨h, h1⟩
    · exact h g2
    · rw [jqV.k g2 (by decide)] at h
      have g3 : (d.ve x).toInt < T 2 s := g3
      omega
    · exact h g4
    · rw [jqZ.k g4 (by decide)] at h
      omega
    · rw [jqZ.k g4 (by decide)] at h
      omega
    · have e := (jdNew.d hT (hI.1 x).1 hc g4 h).1
      omega
  · omega
theorem jdChange.y {T : Nat → Int → Int} {v s c : Int} {d d1 d2 : jDtl} {w : jWl9} {x sp : Nat} {R : Int × Int × (Int → Int)} {v0 l0 ve ln : Int32} {f0 g0 tx : Nat → Int32} {u0 : Nat} (hT : ∀ x, jqK T v x = 3 → 0 ≤ T 3 x) (hI : jdIv d w) (hs : s = jdVs T v) (hc : c = jdCc T v) (hx : 0 ≤ jdWh T v (jdCs d w).1 (jdCs d w).2 ∧ jdWh T v (jdCs d w).1 (jdCs d w).2 < w.1 ∧ w.2 (jdWh T v (jdCs d w).1 (jdCs d w).2).toNat = some x)
    (hn : ∀ i : Nat, (i : Int) < w.1 → w.2 i ≠ some sp) (h1 : d1 = d.put sp v0 l0 f0 u0 g0) (h2 : d2 = d1.put x ve ln tx (d1.ul x) (d1.ux x)) (k1 : jqK T v s = 4) (hv : (d.ve x).toInt < jqV T v s) (k2 : jqK T v c = 2) (z1 : 1 ≤ jqZ T v c) (z2 : jqZ T v c ≤ 8) (hve : ve.toInt = jqV T v s)
    (hR : R = jdCh T v (jqZ T v c).toNat (jqF T v c) (d.ln x).toInt (jSo (d.tx x))) (hJ : R.1 = 1 ∧ R.2.1 = l0.toInt ∧ jdV (jSo f0) R.2.2 l0.toInt) (hl : ln.toInt = (d1.ln sp).toInt) (htx : jdW tx (d1.tx sp)) (hl0 : 0 ≤ l0.toInt) (hl1 : l0.toInt ≤ 1500) : jdIv d2 w ∧ jdCs d2 w = jdChange T v (jdCs d w) := by
  have ne : x ≠ sp := fun q => hn (jdWh T v (jdCs d w).1 (jdCs d w).2).toNat (by omega) (by rw [hx.2.2, q])
  have I1 : jdIv d1 w := by rw [h1]; exact hI.put hl0 hl1
  have el : (d1.ln sp) = l0 := by rw [h1]; exact jUf_s _ _ _
  have et : (d1.tx sp) = f0 := by rw [h1]; exact jUf_s _ _ _
  have eul : d1.ul x = d.ul x := by rw [h1]; exact jUf_n _ _ ne
  have eux : d1.ux x = d.ux x := by rw [h1]; exact jUf_n _ _ ne
  have ec1 : ∀ b, b ≠ sp → jdC1 d1 b = jdC1 d b := fun b hb => by rw [h1]; exact jdC1.put_n d v0 l0 f0 u0 g0 hb
  rw [el] at hl
  rw [et] at htx
  obtain ⟨r1, r2, r3⟩ := jdNew.d hT (hI.1 x).1 hc k2 hR
  have hcg : jdCg T v (jdCs d w).1 (jdCs d w).2 = 1 := by
    refine if_pos ⟨hx.1, by rw [← hs]; exact k1, ?_, by rw [← hc]; exact k2, ?_, ?_, ?_⟩
    · rw [jdCg.d hx, ← hs, ← jqV.k k1 (by decide)]; exact hv
    · rw [← hc, ← jqZ.k k2 (by decide)]; exact z1
    · rw [← hc, ← jqZ.k k2 (by decide)]; exact z2
    · rw [jdCg.d hx, r1]; exact hJ.1
  refine ⟨by rw [h2]; exact I1.put (by omega) (by omega), ?_⟩
  unfold jdChange
  rw [if_pos hcg]
  refine Prod.ext rfl ?_
  show jdLi w.1 w.2 (jdC1 d2) = jdUp (jdLi w.1 w.2 (jdC1 d)) (jdWh T v (jdCs d w).1 (jdCs d w).2) (jdCd T v ((jdCs d w).2 (jdWh T v (jdCs d w).1 (jdCs d w).2)))
  refine jdLi.chg hx.1 hx.2.1 hx.2.2 ?_ (fun i hi he => hI.2.2.1 i _ hi (by omega) (by rw [he, hx.2.2])) (fun i a hi ha hax => ?_)
  · rw [jdCg.d hx, h2, jdC1.put_s]
    unfold jdCd
    rw [r3, r2, hJ.2.1, hve, jqV.k k1 (by decide), hs, hl, eul, eux]
    rw [jdKp.cg (n := l0.toInt) (g := jSo tx) (h := R.2.2) (fun j j0 j1 => (htx j j0 (by omega)).trans (hJ.2.2 j j0 j1))]
    rfl
  · rw [h2, jdC1.put_n d1 ve ln tx (d1.ul x) (d1.ux x) hax]
    exact ec1 a (fun q => hn i hi (by rw [ha, q]))
end
section
-- p9: what a message does
section
variable {T : Nat → Int → Int} {v p m : Int} {S S1 : Int × (Int → jdD)}
theorem jdRq.e (hm : m = jdMe T v) (hp : p ≠ 0) (h1 : jqI T v (jChT "shutdown") 8 m ≠ 1) : jdRq T v p = p := by
  subst hm; unfold jdRq
  rw [if_neg hp, if_neg (fun q => h1 q.2.2)]
theorem jdNo.z (hp : p ≠ 1) : jdNo T v p S = S := if_pos hp
theorem jdNo.n (hm : m = jdMe T v) (h : jqI T v (jChT "textDocument/didOpen") 20 m ≠ 1) (h1 : jqI T v (jChT "textDocument/didChange") 22 m ≠ 1) (h2 : jqI T v (jChT "textDocument/didClose") 21 m ≠ 1) : jdNo T v p S = S := by
  subst hm; unfold jdNo
  by_cases q : p ≠ 1
  · rw [if_pos q]
  · rw [if_neg q, if_neg h, if_neg h1, if_neg h2]
/-- what a notification does: the flag broken, the documents -/
def jdNt (T : Nat → Int → Int) (v p br qb : Int) (S S1 : Int × (Int → jdD)) : Prop := (qb = 1 ∧ jqI T v (jChT "exit") 4 (jdMe T v) = 1 ∧ S1 = S) ∨ (qb = br ∧ jqI T v (jChT "exit") 4 (jdMe T v) ≠ 1 ∧ S1 = jdNo T v p S)
theorem jdNt.y {br qb : Int} (hm : m = jdMe T v) (h : jqI T v (jChT "exit") 4 m = 1) (hq : qb = 1) : jdNt T v p br qb S S := by
  subst hm; exact Or.inl ⟨hq, h, rfl⟩
theorem jdNt.n {br qb : Int} (hm : m = jdMe T v) (h : jqI T v (jChT "exit") 4 m ≠ 1) (hq : qb = br) (hs : S1 = jdNo T v p S) : jdNt T v p br qb S S1 := by
  subst hm; exact Or.inr ⟨hq, h, hs⟩
theorem jdMg.r (hg : jdGd T v = 1) (hi : 0 ≤ jdId T v) : jdMg T v p S = (0, jdRq T v p, S) := by
  unfold jdMg; rw [if_pos hg, if_pos hi]
theorem jdMg.x (hg : jdGd T v ≠ 1) : jdMg T v p S = (0, p, S) := if_neg hg
end
/-- has a request an id -/
def jRi (dC : Nat → ClassId) (dI : Nat → Nat → Nat) (G : jT) (a : Nat) (P : Prop) (H : Heap) : Prop := (P ∧ ∃ y : Nat, G y = some (2, 0) ∧ jf (dC, dI) 10 a 0 (.ref y) H) ∨ (¬ P ∧ jf (dC, dI) 10 a 0 .null H)
theorem jdGd.y {T : Nat → Int → Int} {v z j m p i : Int} (hz : z = 0) (hj : j = jqM T v (jChT "jsonrpc") 7 z) (hm : m = jqM T v (jChT "method") 6 z) (hp : p = jqM T v (jChT "params") 6 z) (hi : i = jqM T v (jChT "id") 2 z) (h1 : jqI T v (jChT "2.0") 3 j = 1) (h2 : jqK T v m = 3) (h3 : p < 0 ∨ jqK T v p = 1) (h4 : i < 0 ∨ (jqK T v i = 4 ∨ (jqK T v i = 3 ∧ jqZ T v i ≤ 20))) : jdGd T v = 1 := by
  subst hz hj hm hp hi
  refine if_pos ⟨h1, h2, h3, ?_⟩
  rcases h4 with h | h | ⟨h, h5⟩
  · exact Or.inl h
  · exact Or.inr (Or.inl h)
  · refine Or.inr (Or.inr ⟨h, ?_⟩)
    rw [jqZ.k h (by decide)] at h5
    exact h5
theorem jdGd.n {T : Nat → Int → Int} {v z j m p i : Int} (hz : z = 0) (hj : j = jqM T v (jChT "jsonrpc") 7 z) (hm : jqI T v (jChT "2.0") 3 j = 1 → m = jqM T v (jChT "method") 6 z) (hp : p = jqM T v (jChT "params") 6 z) (hi : i = jqM T v (jChT "id") 2 z) (h : jqI T v (jChT "2.0") 3 j ≠ 1 ∨ (jqI T v (jChT "2.0") 3 j = 1 ∧ (jqK T v m ≠ 3 ∨ (0 ≤ p ∧ jqK T v p ≠ 1) ∨ (0 ≤ i ∧ ¬ (jqK T v i = 4 ∨ (jqK T v i = 3 ∧ jqZ T v i ≤ 20)))))) : jdGd T v ≠ 1 := by
  subst hz hj hp hi
  intro q
  unfold jdGd at q
  split at q
  · rename_i g
    obtain ⟨g1, g2, g3, g4⟩ := g
    rcases h with h | ⟨h0, h⟩
    · exact h g1
    · have e := hm h0
      subst e
      rcases h with h | ⟨h, h'⟩ | ⟨h, h'⟩
      · exact h g2
      · rcases g3 with g3 | g3
        · have g3 : jqM T v (jChT "params") 6 0 < 0 := g3
          omega
        · exact h' g3
      · rcases g4 with g4 | g4 | ⟨g4, g5⟩
        · have g4 : jqM T v (jChT "id") 2 0 < 0 := g4
          omega
        · exact h' (Or.inl g4)
        · exact h' (Or.inr ⟨g4, by have e9 : jqZ T v (jqM T v (jChT "id") 2 0) = T 3 (jqM T v (jChT "id") 2 0) := jqZ.k g4 (by decide); rw [e9]; exact g5⟩)
  · omega
/-- what is understood of the bytes of a message -/
def jdUs (X : Int × Int × Int × (Nat → Int → Int)) (o : Option Nat) (v u : Int) (T : Nat → Int → Int) (fk fi fz fn fa fs fu : Nat → Int32) : Prop := (o = none ∧ (X.1 = 0 ∨ (X = (1, v, u, T) ∧ jdGd T v ≠ 1))) ∨ (o ≠ none ∧ X = (1, v, u, T) ∧ jdGd T v = 1 ∧ jjTC T v u fk fi fz fn fa fs fu ∧ jjCo T 0 v)
section JR8
variable {dC : Nat → ClassId} {dI : Nat → Nat → Nat} {G : jT} {a nn yy : Nat} {P Q : Prop} {H : Heap}
theorem jRi.ie (h : jRi dC dI G a P H) (ha : G a = some (10, nn)) : (([(10, 0)], jRi dC dI G a P) : jIv).2 H ∧ ∀ H1 H2 : Heap, jAg (dC, dI) G (([(10, 0)], jRi dC dI G a P) : jIv).1 H1 H2 → (([(10, 0)], jRi dC dI G a P) : jIv).2 H1 → (([(10, 0)], jRi dC dI G a P) : jIv).2 H2 := by
  refine ⟨h, fun H1 H2 hA hq => ?_⟩
  rcases hq with ⟨p, y, g, f⟩ | ⟨p, f⟩
  · exact Or.inl ⟨p, y, g, hA.1 a 10 nn 0 _ ha rfl f⟩
  · exact Or.inr ⟨p, hA.1 a 10 nn 0 _ ha rfl f⟩
theorem jRi.y (h : jRi dC dI G a P H) (f : jf (dC, dI) 10 a 0 (.ref yy) H) : P := by
  rcases h with ⟨p, -⟩ | ⟨-, g⟩
  · exact p
  · have e := jf.uniq f g
    cases e
theorem jRi.n (h : jRi dC dI G a P H) (f : jf (dC, dI) 10 a 0 .null H) : ¬ P := by
  rcases h with ⟨-, x, -, g⟩ | ⟨p, -⟩
  · have e := jf.uniq f g
    cases e
  · exact p
end JR8
end
section
-- p9: the state of a server as both sides tell it; what a byte does, what many do
/-- frames, the bytes of the body, the phase, the open documents -/
abbrev jdSt := (Nat → Int) × (Int → Int) × Int × (Int × (Int → jdD))
/-- the contents of an array with these bytes -/
def jfCn (D : Int → Int) : Nat → Int32 := fun j => if j < 3000 then Int32.ofInt (if D j < 128 then D j else D j - 256) else 0
def jdMs (D : Int → Int) (z p : Int) (S : Int × (Int → jdD)) : Int × Int × Int × (Int → jdD) := if (jjRd (jB8 (jfCn D)) z).1 = 1 then jdMg (jjRd (jB8 (jfCn D)) z).2.2.2 (jjRd (jB8 (jfCn D)) z).2.1 p S else (0, p, S)
def jdBy (s : jdSt) (c : Int) : Int → Int := if s.1 1 = 6 then jfBu s.2.1 (s.1 8) c else s.2.1
def jdStep (s : jdSt) (c : Int) : jdSt := if s.1 0 = 1 then s else if (jfAc s.1 c).2.1 = 1 then (if (jdMs (jdBy s c) (jfAc s.1 c).2.2 s.2.2.1 s.2.2.2).1 = 1 then jfB else (jfAc s.1 c).1, jdBy s c, (jdMs (jdBy s c) (jfAc s.1 c).2.2 s.2.2.1 s.2.2.2).2) else ((jfAc s.1 c).1, jdBy s c, s.2.2)
def jdFd (b : Int → Int) (s : jdSt) : Nat → jdSt
  | 0 => s
  | k + 1 => jdStep (jdFd b s k) (b k)
def jdN (a p : Int) : Nat := if 0 ≤ a ∧ a ≤ p then a.toNat else 0
section
variable {s : jdSt} {u r br qn qb pl to ke sg il dg sv fi a1 a2 a3 a4 a5 a6 a7 a8 : Int}
theorem jfQ.z {Y : Nat → Int} (h : jfQ Y qb a1 a2 a3 a4 a5 a6 a7 a8) (hb : qb = 1) : Y 0 = 1 := by
  rcases h with ⟨-, e⟩ | ⟨e, -⟩
  · rw [e]; rfl
  · omega
theorem jfQ.v {Y : Nat → Int} (h : jfQ Y qb a1 a2 a3 a4 a5 a6 a7 a8) (hb : qb = 0) : Y = jfV 0 a1 a2 a3 a4 a5 a6 a7 a8 := by
  rcases h with ⟨e, -⟩ | ⟨-, e⟩
  · omega
  · exact e
theorem jdBy.of (hX : jfQ s.1 br pl to ke sg il dg sv fi) (hb : br = 0) : jdBy s u = if pl = 6 then jfBu s.2.1 fi u else s.2.1 := by
  unfold jdBy
  rw [hX.v hb]
  rfl
/-- a byte that ends no message -/
theorem jdStep.n (hX : jfQ s.1 br pl to ke sg il dg sv fi) (hb : br = 0) (hA : jfA (jfV 0 pl to ke sg il dg sv fi) u r qn qb a1 a2 a3 a4 a5 a6 a7 a8) (hr : r = 0) : jfQ (jdStep s u).1 qb a1 a2 a3 a4 a5 a6 a7 a8 ∧ (jdStep s u).2.1 = jdBy s u ∧ (jdStep s u).2.2 = s.2.2 := by
  obtain ⟨Y, z, h1, h2, -⟩ := hA
  have e0 := hX.v hb
  have e1 : jfAc s.1 u = (Y, r, z) := by rw [e0]; exact h1
  have e2 : jdStep s u = (Y, jdBy s u, s.2.2) := by
    unfold jdStep
    rw [e1, if_neg (by rw [e0]; show ¬ (0 : Int) = 1; omega), if_neg (by show ¬ r = 1; omega)]
  rw [e2]
  exact ⟨h2, rfl, rfl⟩
/-- a byte that ends one -/
theorem jdStep.y {m p : Int} {S : Int × (Int → jdD)} (hX : jfQ s.1 br pl to ke sg il dg sv fi) (hb : br = 0) (hA : jfA (jfV 0 pl to ke sg il dg sv fi) u r qn qb a1 a2 a3 a4 a5 a6 a7 a8) (hr : r = 1) (hq : qb = 0) (hM : jdMs (jdBy s u) qn s.2.2.1 s.2.2.2 = (m, p, S)) (hm : m = 0 ∨ m = 1) : jfQ (jdStep s u).1 m a1 a2 a3 a4 a5 a6 a7 a8 ∧ (jdStep s u).2.1 = jdBy s u ∧ (jdStep s u).2.2.1 = p ∧ (jdStep s u).2.2.2 = S := by
  obtain ⟨Y, z, h1, h2, h3⟩ := hA
  have e0 := hX.v hb
  have e1 : jfAc s.1 u = (Y, r, z) := by rw [e0]; exact h1
  have ez := h3 hr
  subst ez
  have e2 : jdStep s u = (if m = 1 then jfB else Y, jdBy s u, p, S) := by
    unfold jdStep
    rw [e1, if_neg (by rw [e0]; show ¬ (0 : Int) = 1; omega), if_pos (by show r = 1; exact hr), hM]
  rw [e2]
  refine ⟨?_, rfl, rfl, rfl⟩
  show jfQ (if m = 1 then jfB else Y) m a1 a2 a3 a4 a5 a6 a7 a8
  by_cases e : m = 1
  · rw [if_pos e]; exact Or.inl ⟨e, rfl⟩
  · rw [if_neg e]; exact Or.inr ⟨by omega, h2.v hq⟩
end
theorem jdMs.n {D : Int → Int} {z p : Int} {S : Int × (Int → jdD)} (h : (jjRd (jB8 (jfCn D)) z).1 = 0) : jdMs D z p S = (0, p, S) := if_neg (by omega)
theorem jdMs.y {D : Int → Int} {z p v u : Int} {T : Nat → Int → Int} {S : Int × (Int → jdD)} (h : jjRd (jB8 (jfCn D)) z = (1, v, u, T)) : jdMs D z p S = jdMg T v p S := by
  unfold jdMs
  rw [h]
  exact if_pos rfl
/-- what a byte does to the body -/
theorem jfBd.all {D : Int → Int} {f : Nat → Int32} (h : jfBd D f 3000) : ∀ j : Nat, j < 3000 → f j = jfCn D j := fun j hj => by
  obtain ⟨h1, h2, h3⟩ := h j (by omega) (by omega)
  unfold jfCn
  rw [if_pos hj]
  have e : jSo f j = (if D j < 128 then D j else D j - 256) := by
    unfold jB8 at h1
    split <;> omega
  rw [← e]
  show f j = Int32.ofInt (f (j : Int).toNat).toInt
  rw [Int32.ofInt_toInt]
  rfl
theorem jfFt.of {D : Int → Int} {f : Nat → Int32} {n : Int} (h : jfBd D f 3000) (hn : n ≤ 3000) : jjFt (jfCn D) n := fun j h0 h1 => by
  obtain ⟨-, a, b⟩ := h j h0 (by omega)
  have e : f j.toNat = jfCn D j.toNat := h.all j.toNat (by omega)
  have e1 : jSo f j = jSo (jfCn D) j := congrArg Int32.toInt e
  omega
section JP9
variable {dC : Nat → ClassId} {dI : Nat → Nat → Nat} {ca : Nat → ClassId} {B : jF} {base : Nat} {G0 G : jT} {E : List (Nat × Nat)} {H0 H : Heap} {zc zs : Nat} {L : List jPin} {M : List jCt} {I : List jIv} {locs : List Loc} {a k n : Nat}
end JP9
theorem jdFd.s {b : Int → Int} {s : jdSt} {k k1 : Nat} {v c : Int} (hk : k1 = k + 1) (hv : (k : Int) = v) (hc : c = b v) : jdFd b s k1 = jdStep (jdFd b s k) c := by
  subst hk hc hv
  rfl
theorem jdN.n {a p : Int} (h : a < 0 ∨ p < a) : jdN a p = 0 := if_neg (fun q => by omega)
theorem jdN.y {a p : Int} (h : 0 ≤ a) (h1 : a ≤ p) : jdN a p = a.toNat := if_pos ⟨h, h1⟩
theorem jdUs.n {D : Int → Int} {z v u p : Int} {T : Nat → Int → Int} {o : Option Nat} {fk fi fz fn fa fs fu : Nat → Int32} {S : Int × (Int → jdD)} (h : jdUs (jjRd (jB8 (jfCn D)) z) o v u T fk fi fz fn fa fs fu) (ho : (Value.null) = va_rf o) : jdMs D z p S = (0, p, S) := by
  have e : o = none := by
    cases o with
    | none => rfl
    | some x => cases ho
  rcases h with ⟨-, h | ⟨h, h1⟩⟩ | ⟨h, -⟩
  · exact jdMs.n h
  · rw [jdMs.y h]; exact jdMg.x h1
  · exact absurd e h
theorem jdUs.y {X : Int × Int × Int × (Nat → Int → Int)} {v u : Int} {T : Nat → Int → Int} {o : Option Nat} {x : Nat} {fk fi fz fn fa fs fu : Nat → Int32} (h : jdUs X o v u T fk fi fz fn fa fs fu) (ho : (Value.ref x) = va_rf o) : X = (1, v, u, T) ∧ jdGd T v = 1 ∧ jjTC T v u fk fi fz fn fa fs fu ∧ jjCo T 0 v := by
  have e := jdAt ho
  rcases h with ⟨h, -⟩ | ⟨-, h⟩
  · rw [h] at e; cases e
  · exact h
end
